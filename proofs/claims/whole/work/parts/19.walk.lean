/-! walks (printed by gen.py) -/
set_option maxHeartbeats 4000000 in
set_option maxRecDepth 20000 in
theorem zj_Planner_planProperty_185 {B : zx_B} (E : zx_E B zm_Planner_planProperty)  (x3 : Fin 129) (s0 : Fin 129) (s1 : Int32) (h : zx_H) : zx_X B zm_Planner_planProperty (zx_QM B (fun r => ((some (Value.int r.1) : Option Value), r.2))) (zs_Planner_planProperty_J185  x3 s0 s1 h) 0 0 185 [(0, zx_rV (zx_BK B) 16 0), (3, zx_rV (zx_BK B) 60 x3.val)] [.int s1, zx_rV (zx_BK B) 60 s0.val] h := by
  unfold zs_Planner_planProperty_J185
  refine zx_putI E zd_Plan_way zp_Plan_way zg_60 s0.isLt rfl rfl zw_125 dd_Planner_planProperty_185 ?_
  refine zx_letH (fun h1 => ?_)
  refine zx_aload_n E 0 dd_Planner_planProperty_188 rfl rfl ?_
  refine zx_aload_n E 1 dd_Planner_planProperty_189 rfl rfl ?_
  refine zx_getI E zd_Plan_way zg_60 x3.isLt zw_125 dd_Planner_planProperty_190 ?_
  refine zx_callV_i (T := zx_TPlanner) E [.int (h1.1 60 x3.val 5)] (fun rZ eZ => zt_Planner_faultOf _ _ (h1.1 60 x3.val 5) h1 _ eZ) zg_16 Nat.zero_lt_one rfl zc_Planner_170 ⟨by decide, by decide⟩ (Nat.zero_le _) (Nat.zero_le _) rfl rfl (Nat.le_of_ble_eq_true rfl) dd_Planner_planProperty_193 (fun r2 => ?_)
  exact zx_iret E rfl rfl dd_Planner_planProperty_196
set_option maxHeartbeats 4000000 in
set_option maxRecDepth 20000 in
theorem zt_Planner_planProperty (l : Launch) (K : zx_K) (a1 : Fin 16) (a2 : Int32) (h : zx_H) (r : (Int32 × zx_H)) (hf : zs_Planner_planProperty a1 a2 h = some r) : zx_MR l zm_Planner_planProperty zy_Planner_planProperty K [zx_rV K 16 0, zx_rV K 54 a1.val, .int a2] h (some (.int r.1)) r.2 := by
  refine zx_ofM (M := zm_Planner_planProperty) (y := zy_Planner_planProperty) (r := r) (as := [zx_rV K 16 0, zx_rV K 54 a1.val, .int a2]) (ρ := (fun r => ((some (Value.int r.1) : Option Value), r.2))) (by decide) rfl hf (Nat.le_of_ble_eq_true rfl) ?_
  intro B hl hK E
  subst hK
  subst hl
  show zx_X B zm_Planner_planProperty _ _ 0 0 0 [(0, zx_rV (zx_BK B) 16 0), (1, zx_rV (zx_BK B) 54 a1.val), (2, .int a2)] [] h
  unfold zs_Planner_planProperty
  refine zx_aload_n E 1 dd_Planner_planProperty_0 rfl rfl ?_
  refine zx_getR E 58 a1.val zd_Method_plans zg_54 a1.isLt (zr_Method_plans _) zw_177 dd_Planner_planProperty_1 ?_
  refine zx_iload_n E 2 dd_Planner_planProperty_4 rfl rfl ?_
  refine zx_aaldP E dd_Planner_planProperty_5 (fun j1 => ?_)
  refine zx_astore_n E (lv1 := [(3, zx_rV (zx_BK B) 60 (zx_pp a1 j1).val), (0, zx_rV (zx_BK B) 16 0), (1, zx_rV (zx_BK B) 54 a1.val), (2, .int a2)]) dd_Planner_planProperty_6 rfl (by decide) rfl ?_
  refine zx_aload_n E 1 dd_Planner_planProperty_7 rfl rfl ?_
  refine zx_getR E 1 0 zd_Planner_types zg_16 Nat.zero_lt_one (zr_Planner_types _) zw_273 dd_Planner_planProperty_8 ?_
  refine zx_aload_n E 2 dd_Planner_planProperty_11 rfl rfl ?_
  refine zx_getI E zd_Method_to zg_54 a1.isLt zw_156 dd_Planner_planProperty_12 ?_
  refine zx_iload_n E 3 dd_Planner_planProperty_15 rfl rfl ?_
  refine zx_callV_i (T := zx_TTypes) E [.int (h.1 54 a1.val 1), .int a2] (fun rZ eZ => zt_Types_nameAt _ _ (h.1 54 a1.val 1) a2 h _ eZ) zg_1 Nat.zero_lt_one rfl zc_Planner_145 ⟨by decide, by decide⟩ (Nat.zero_le _) (Nat.zero_le _) rfl rfl (Nat.le_of_ble_eq_true rfl) dd_Planner_planProperty_16 (fun r2 => ?_)
  refine zx_istore E (lv1 := [(4, .int r2), (3, zx_rV (zx_BK B) 60 (zx_pp a1 j1).val), (0, zx_rV (zx_BK B) 16 0), (1, zx_rV (zx_BK B) 54 a1.val), (2, .int a2)]) dd_Planner_planProperty_19 (by decide) rfl ?_
  refine zx_aload_n E 2 dd_Planner_planProperty_21 rfl rfl ?_
  refine zx_getR E 1 0 zd_Planner_types zg_16 Nat.zero_lt_one (zr_Planner_types _) zw_273 dd_Planner_planProperty_22 ?_
  refine zx_aload_n E 3 dd_Planner_planProperty_25 rfl rfl ?_
  refine zx_getI E zd_Method_to zg_54 a1.isLt zw_156 dd_Planner_planProperty_26 ?_
  refine zx_iload_n E 4 dd_Planner_planProperty_29 rfl rfl ?_
  refine zx_callV_i (T := zx_TTypes) E [.int (h.1 54 a1.val 1), .int a2] (fun rZ eZ => zt_Types_typeAt _ _ (h.1 54 a1.val 1) a2 h _ eZ) zg_1 Nat.zero_lt_one rfl zc_Planner_149 ⟨by decide, by decide⟩ (Nat.zero_le _) (Nat.zero_le _) rfl rfl (Nat.le_of_ble_eq_true rfl) dd_Planner_planProperty_30 (fun r3 => ?_)
  refine zx_istore E (lv1 := [(5, .int r3), (4, .int r2), (3, zx_rV (zx_BK B) 60 (zx_pp a1 j1).val), (0, zx_rV (zx_BK B) 16 0), (1, zx_rV (zx_BK B) 54 a1.val), (2, .int a2)]) dd_Planner_planProperty_33 (by decide) rfl ?_
  refine zx_aload_n E 4 dd_Planner_planProperty_35 rfl rfl ?_
  refine zx_iconst E (2 : Int32) dd_Planner_planProperty_36 (by decide) ?_
  refine zx_iload E 1 dd_Planner_planProperty_37 rfl ?_
  refine zx_callV_i (T := zx_TMethod) E [.int (2 : Int32), .int r2] (fun rZ eZ => zt_Method_first _ _ a1 (2 : Int32) r2 h _ eZ) zg_54 a1.isLt rfl zc_Planner_152 ⟨by decide, by decide⟩ (Nat.zero_le _) (Nat.zero_le _) rfl rfl (Nat.le_of_ble_eq_true rfl) dd_Planner_planProperty_39 (fun r4 => ?_)
  refine zx_iconst E (-1 : Int32) dd_Planner_planProperty_42 (by decide) ?_
  refine zx_icmp_eq E 53 dd_Planner_planProperty_43 rfl ?_ ?_
  · refine zx_aload_n E 2 dd_Planner_planProperty_46 rfl rfl ?_
    refine zx_iconst E (2 : Int32) dd_Planner_planProperty_47 (by decide) ?_
    refine zx_putI E zd_Plan_origin zp_Plan_origin zg_60 (zx_pp a1 j1).isLt rfl rfl zw_114 dd_Planner_planProperty_48 ?_
    refine zx_letH (fun h5 => ?_)
    refine zx_iconst E (0 : Int32) dd_Planner_planProperty_51 (by decide) ?_
    exact zx_iret E rfl rfl dd_Planner_planProperty_52
  refine zx_aload_n E 4 dd_Planner_planProperty_53 rfl rfl ?_
  refine zx_iconst E (1 : Int32) dd_Planner_planProperty_54 (by decide) ?_
  refine zx_iload E 1 dd_Planner_planProperty_55 rfl ?_
  refine zx_callV_i (T := zx_TMethod) E [.int (1 : Int32), .int r2] (fun rZ eZ => zt_Method_first _ _ a1 (1 : Int32) r2 h _ eZ) zg_54 a1.isLt rfl zc_Planner_152 ⟨by decide, by decide⟩ (Nat.zero_le _) (Nat.zero_le _) rfl rfl (Nat.le_of_ble_eq_true rfl) dd_Planner_planProperty_57 (fun r6 => ?_)
  refine zx_istore E (lv1 := [(6, .int r6), (5, .int r3), (4, .int r2), (3, zx_rV (zx_BK B) 60 (zx_pp a1 j1).val), (0, zx_rV (zx_BK B) 16 0), (1, zx_rV (zx_BK B) 54 a1.val), (2, .int a2)]) dd_Planner_planProperty_60 (by decide) rfl ?_
  refine zx_iload E 0 dd_Planner_planProperty_62 rfl ?_
  refine zx_iconst E (-1 : Int32) dd_Planner_planProperty_64 (by decide) ?_
  refine zx_icmp_eq E 107 dd_Planner_planProperty_65 rfl ?_ ?_
  · refine zx_aload_n E 3 dd_Planner_planProperty_68 rfl rfl ?_
    refine zx_iconst E (1 : Int32) dd_Planner_planProperty_69 (by decide) ?_
    refine zx_putI E zd_Plan_origin zp_Plan_origin zg_60 (zx_pp a1 j1).isLt rfl rfl zw_114 dd_Planner_planProperty_70 ?_
    refine zx_letH (fun h7 => ?_)
    refine zx_aload_n E 3 dd_Planner_planProperty_73 rfl rfl ?_
    refine zx_aload_n E 5 dd_Planner_planProperty_74 rfl rfl ?_
    refine zx_getR E 57 a1.val zd_Method_whats zg_54 a1.isLt (zr_Method_whats _) zw_170 dd_Planner_planProperty_75 ?_
    refine zx_iload E 0 dd_Planner_planProperty_78 rfl ?_
    refine zx_lald E zg_57 a1.isLt dd_Planner_planProperty_80 ?_
    refine zx_putJ E zd_Plan_constant zp_Plan_constant zg_60 (zx_pp a1 j1).isLt zw_116 dd_Planner_planProperty_81 ?_
    refine zx_letH (fun h8 => ?_)
    refine zx_aload_n E 3 dd_Planner_planProperty_84 rfl rfl ?_
    refine zx_aload_n E 4 dd_Planner_planProperty_85 rfl rfl ?_
    refine zx_getR E 14 0 zd_Planner_ways zg_16 Nat.zero_lt_one (zr_Planner_ways _) zw_275 dd_Planner_planProperty_86 ?_
    refine zx_iconst E (4 : Int32) dd_Planner_planProperty_89 (by decide) ?_
    refine zx_iload E 1 dd_Planner_planProperty_90 rfl ?_
    refine zx_callV_iw (T := zx_TWays) E [.int (4 : Int32), .int r3] (fun rZ eZ => zt_Ways_find _ _ (4 : Int32) r3 h8 _ eZ) zg_14 Nat.zero_lt_one rfl zc_Planner_162 ⟨by decide, by decide⟩ (Nat.zero_le _) (Nat.zero_le _) rfl rfl (Nat.le_of_ble_eq_true rfl) dd_Planner_planProperty_92 (fun r9 => ?_)
    refine zx_putI E zd_Plan_way zp_Plan_way zg_60 (zx_pp a1 j1).isLt rfl rfl zw_125 dd_Planner_planProperty_95 ?_
    refine zx_letH (fun h10 => ?_)
    refine zx_aload_n E 4 dd_Planner_planProperty_98 rfl rfl ?_
    refine zx_aload_n E 3 dd_Planner_planProperty_99 rfl rfl ?_
    refine zx_getI E zd_Plan_way zg_60 (zx_pp a1 j1).isLt zw_125 dd_Planner_planProperty_100 ?_
    refine zx_callV_i (T := zx_TPlanner) E [.int (h10.1 60 (zx_pp a1 j1).val 5)] (fun rZ eZ => zt_Planner_faultOf _ _ (h10.1 60 (zx_pp a1 j1).val 5) h10 _ eZ) zg_16 Nat.zero_lt_one rfl zc_Planner_170 ⟨by decide, by decide⟩ (Nat.zero_le _) (Nat.zero_le _) rfl rfl (Nat.le_of_ble_eq_true rfl) dd_Planner_planProperty_103 (fun r11 => ?_)
    exact zx_iret E rfl rfl dd_Planner_planProperty_106
  refine zx_aload_n E 3 dd_Planner_planProperty_107 rfl rfl ?_
  refine zx_iconst E (0 : Int32) dd_Planner_planProperty_108 (by decide) ?_
  refine zx_putI E zd_Plan_origin zp_Plan_origin zg_60 (zx_pp a1 j1).isLt rfl rfl zw_114 dd_Planner_planProperty_109 ?_
  refine zx_letH (fun h12 => ?_)
  refine zx_aload_n E 3 dd_Planner_planProperty_112 rfl rfl ?_
  refine zx_aload_n E 4 dd_Planner_planProperty_113 rfl rfl ?_
  refine zx_getR E 1 0 zd_Planner_types zg_16 Nat.zero_lt_one (zr_Planner_types _) zw_273 dd_Planner_planProperty_114 ?_
  refine zx_aload_n E 5 dd_Planner_planProperty_117 rfl rfl ?_
  refine zx_getI E zd_Method_from zg_54 a1.isLt zw_152 dd_Planner_planProperty_118 ?_
  refine zx_aload_n E 4 dd_Planner_planProperty_121 rfl rfl ?_
  refine zx_aload_n E 5 dd_Planner_planProperty_122 rfl rfl ?_
  refine zx_iload E 2 dd_Planner_planProperty_123 rfl ?_
  refine zx_callV_l (T := zx_TPlanner) E [zx_rV (zx_BK B) 54 a1.val, .int r2] (fun rZ eZ => zt_Planner_pathTo _ _ a1 r2 h12 _ eZ) zg_16 Nat.zero_lt_one rfl zc_Planner_173 ⟨by decide, by decide⟩ (Nat.zero_le _) (Nat.zero_le _) rfl rfl (Nat.le_of_ble_eq_true rfl) dd_Planner_planProperty_125 (fun r13 => ?_)
  refine zx_callV_zw (T := zx_TPlan) E [zx_rV (zx_BK B) 1 0, .int (h12.1 54 a1.val 0), .long r13] (fun rZ eZ => zt_Plan_trace _ _ (zx_pp a1 j1) (h12.1 54 a1.val 0) r13 h12 _ eZ) zg_60 (zx_pp a1 j1).isLt rfl zc_Planner_130 ⟨by decide, by decide⟩ (Nat.zero_le _) (Nat.zero_le _) rfl rfl (Nat.le_of_ble_eq_true rfl) dd_Planner_planProperty_128 (fun r14 => ?_)
  refine zx_ifb_ne E (x := r14.1) 136 dd_Planner_planProperty_131 rfl ?_ ?_
  · refine zx_iconst E (5 : Int32) dd_Planner_planProperty_134 (by decide) ?_
    exact zx_iret E rfl rfl dd_Planner_planProperty_135
  refine zx_aload_n E 5 dd_Planner_planProperty_136 rfl rfl ?_
  refine zx_iconst E (4 : Int32) dd_Planner_planProperty_137 (by decide) ?_
  refine zx_iload E 2 dd_Planner_planProperty_138 rfl ?_
  refine zx_callV_i (T := zx_TMethod) E [.int (4 : Int32), .int r2] (fun rZ eZ => zt_Method_first _ _ a1 (4 : Int32) r2 r14.2 _ eZ) zg_54 a1.isLt rfl zc_Planner_152 ⟨by decide, by decide⟩ (Nat.zero_le _) (Nat.zero_le _) rfl rfl (Nat.le_of_ble_eq_true rfl) dd_Planner_planProperty_140 (fun r15 => ?_)
  refine zx_istore E (lv1 := [(7, .int r15), (6, .int r6), (5, .int r3), (4, .int r2), (3, zx_rV (zx_BK B) 60 (zx_pp a1 j1).val), (0, zx_rV (zx_BK B) 16 0), (1, zx_rV (zx_BK B) 54 a1.val), (2, .int a2)]) dd_Planner_planProperty_143 (by decide) rfl ?_
  refine zx_aload_n E 4 dd_Planner_planProperty_145 rfl rfl ?_
  refine zx_iload E 0 dd_Planner_planProperty_146 rfl ?_
  refine zx_iconst E (-1 : Int32) dd_Planner_planProperty_148 (by decide) ?_
  refine zx_icmp_ne E 168 dd_Planner_planProperty_149 rfl ?_ ?_
  · refine zx_aload_n E 5 dd_Planner_planProperty_152 rfl rfl ?_
    refine zx_getR E 14 0 zd_Planner_ways zg_16 Nat.zero_lt_one (zr_Planner_ways _) zw_275 dd_Planner_planProperty_153 ?_
    refine zx_aload_n E 4 dd_Planner_planProperty_156 rfl rfl ?_
    refine zx_getI E zd_Plan_sourceType zg_60 (zx_pp a1 j1).isLt zw_123 dd_Planner_planProperty_157 ?_
    refine zx_iload E 2 dd_Planner_planProperty_160 rfl ?_
    refine zx_callV_iw (T := zx_TWays) E [.int (r14.2.1 60 (zx_pp a1 j1).val 4), .int r3] (fun rZ eZ => zt_Ways_find _ _ (r14.2.1 60 (zx_pp a1 j1).val 4) r3 r14.2 _ eZ) zg_14 Nat.zero_lt_one rfl zc_Planner_162 ⟨by decide, by decide⟩ (Nat.zero_le _) (Nat.zero_le _) rfl rfl (Nat.le_of_ble_eq_true rfl) dd_Planner_planProperty_162 (fun r16 => ?_)
    refine zx_goto E 185 dd_Planner_planProperty_165 rfl ?_
    refine zx_sub [5, 4] rfl ?_
    exact zj_Planner_planProperty_185 E (zx_pp a1 j1) (zx_pp a1 j1) r16.1 r16.2
  refine zx_aload_n E 5 dd_Planner_planProperty_168 rfl rfl ?_
  refine zx_aload_n E 6 dd_Planner_planProperty_169 rfl rfl ?_
  refine zx_getR E 57 a1.val zd_Method_whats zg_54 a1.isLt (zr_Method_whats _) zw_170 dd_Planner_planProperty_170 ?_
  refine zx_iload E 0 dd_Planner_planProperty_173 rfl ?_
  refine zx_lald E zg_57 a1.isLt dd_Planner_planProperty_175 ?_
  refine zx_aload_n E 4 dd_Planner_planProperty_176 rfl rfl ?_
  refine zx_getI E zd_Plan_sourceType zg_60 (zx_pp a1 j1).isLt zw_123 dd_Planner_planProperty_177 ?_
  refine zx_iload E 2 dd_Planner_planProperty_180 rfl ?_
  refine zx_callV_i (T := zx_TPlanner) E [.long (r14.2.2 57 a1.val r15.toNatClampNeg), .int (r14.2.1 60 (zx_pp a1 j1).val 4), .int r3] (fun rZ eZ => zt_Planner_wayBy _ _ (r14.2.2 57 a1.val r15.toNatClampNeg) (r14.2.1 60 (zx_pp a1 j1).val 4) r3 r14.2 _ eZ) zg_16 Nat.zero_lt_one rfl zc_Planner_180 ⟨by decide, by decide⟩ (Nat.zero_le _) (Nat.zero_le _) rfl rfl (Nat.le_of_ble_eq_true rfl) dd_Planner_planProperty_182 (fun r17 => ?_)
  refine zx_sub [5, 4] rfl ?_
  exact zj_Planner_planProperty_185 E (zx_pp a1 j1) (zx_pp a1 j1) r17 r14.2
set_option maxHeartbeats 4000000 in
set_option maxRecDepth 20000 in
theorem zj_Planner_inverseConstant_100 {B : zx_B} (E : zx_E B zm_Planner_inverseConstant) (h : zx_H) (k33 : (Fin 16 → Int32 → Fin 16 → Int32 → Option Int32)) (hk33 : ∀ (x1 : Fin 16) (x2 : Int32) (x3 : Fin 16) (x4 : Int32), zx_X B zm_Planner_inverseConstant (zx_QM B (fun r => ((some (Value.int r) : Option Value), h))) (k33 x1 x2 x3 x4) 0 0 33 [(0, zx_rV (zx_BK B) 16 0), (1, zx_rV (zx_BK B) 54 x1.val), (2, .int x2), (3, zx_rV (zx_BK B) 54 x3.val), (4, .int x4)] [] h) (x1 : Fin 16) (x2 : Int32) (x3 : Fin 16) (x4 : Int32) : zx_X B zm_Planner_inverseConstant (zx_QM B (fun r => ((some (Value.int r) : Option Value), h))) (zs_Planner_inverseConstant_J100 h k33 x1 x2 x3 x4) 0 0 100 [(0, zx_rV (zx_BK B) 16 0), (1, zx_rV (zx_BK B) 54 x1.val), (2, .int x2), (3, zx_rV (zx_BK B) 54 x3.val), (4, .int x4)] [] h := by
  unfold zs_Planner_inverseConstant_J100
  refine zx_iinc E 4 (x4 + (1 : Int32)) (lv1 := [(4, .int (x4 + (1 : Int32))), (0, zx_rV (zx_BK B) 16 0), (1, zx_rV (zx_BK B) 54 x1.val), (2, .int x2), (3, zx_rV (zx_BK B) 54 x3.val)]) dd_Planner_inverseConstant_100 rfl rfl (by decide) rfl ?_
  refine zx_goto E 33 dd_Planner_inverseConstant_103 rfl ?_
  refine zx_sub [1, 2, 3, 4, 0] rfl ?_
  exact hk33 x1 x2 x3 (x4 + (1 : Int32))
set_option maxHeartbeats 4000000 in
set_option maxRecDepth 20000 in
theorem zb_Planner_inverseConstant_33 {B : zx_B} (E : zx_E B zm_Planner_inverseConstant) (h : zx_H)  (k33 : (Fin 16 → Int32 → Fin 16 → Int32 → Option Int32)) (hk33 : ∀ (x1 : Fin 16) (x2 : Int32) (x3 : Fin 16) (x4 : Int32), zx_X B zm_Planner_inverseConstant (zx_QM B (fun r => ((some (Value.int r) : Option Value), h))) (k33 x1 x2 x3 x4) 0 0 33 [(0, zx_rV (zx_BK B) 16 0), (1, zx_rV (zx_BK B) 54 x1.val), (2, .int x2), (3, zx_rV (zx_BK B) 54 x3.val), (4, .int x4)] [] h) (x1 : Fin 16) (x2 : Int32) (x3 : Fin 16) (x4 : Int32) : zx_X B zm_Planner_inverseConstant (zx_QM B (fun r => ((some (Value.int r) : Option Value), h))) (zs_Planner_inverseConstant_L33_body h  k33 x1 x2 x3 x4) 0 0 33 [(0, zx_rV (zx_BK B) 16 0), (1, zx_rV (zx_BK B) 54 x1.val), (2, .int x2), (3, zx_rV (zx_BK B) 54 x3.val), (4, .int x4)] [] h := by
  unfold zs_Planner_inverseConstant_L33_body
  refine zx_iload E 4 dd_Planner_inverseConstant_33 rfl ?_
  refine zx_aload_n E 3 dd_Planner_inverseConstant_35 rfl rfl ?_
  refine zx_getI E zd_Method_ruleCount zg_54 x3.isLt zw_161 dd_Planner_inverseConstant_36 ?_
  refine zx_icmp_ge E 106 dd_Planner_inverseConstant_39 rfl ?_ ?_
  rotate_left
  · refine zx_iconst E (-1 : Int32) dd_Planner_inverseConstant_106 (by decide) ?_
    exact zx_iret E rfl rfl dd_Planner_inverseConstant_107
  refine zx_aload_n E 3 dd_Planner_inverseConstant_42 rfl rfl ?_
  refine zx_getR E 55 x3.val zd_Method_kinds zg_54 x3.isLt (zr_Method_kinds _) zw_165 dd_Planner_inverseConstant_43 ?_
  refine zx_iload E 4 dd_Planner_inverseConstant_46 rfl ?_
  refine zx_iald E zg_55 x3.isLt dd_Planner_inverseConstant_48 ?_
  refine zx_iconst E (5 : Int32) dd_Planner_inverseConstant_49 (by decide) ?_
  refine zx_icmp_ne E 100 dd_Planner_inverseConstant_50 rfl ?_ ?_
  rotate_left
  · exact zj_Planner_inverseConstant_100 E h k33 hk33 x1 x2 x3 x4
  refine zx_aload_n E 3 dd_Planner_inverseConstant_53 rfl rfl ?_
  refine zx_getR E 57 x3.val zd_Method_whats zg_54 x3.isLt (zr_Method_whats _) zw_170 dd_Planner_inverseConstant_54 ?_
  refine zx_iload E 4 dd_Planner_inverseConstant_57 rfl ?_
  refine zx_lald E zg_57 x3.isLt dd_Planner_inverseConstant_59 ?_
  refine zx_iload_n E 2 dd_Planner_inverseConstant_60 rfl rfl ?_
  refine zx_i2l E dd_Planner_inverseConstant_61 ?_
  refine zx_lcmp_ne E 100 dd_Planner_inverseConstant_62 dd_Planner_inverseConstant_63 rfl ?_ ?_
  rotate_left
  · exact zj_Planner_inverseConstant_100 E h k33 hk33 x1 x2 x3 x4
  refine zx_aload_n E 3 dd_Planner_inverseConstant_66 rfl rfl ?_
  refine zx_getR E 56 x3.val zd_Method_targets zg_54 x3.isLt (zr_Method_targets _) zw_168 dd_Planner_inverseConstant_67 ?_
  refine zx_iload E 4 dd_Planner_inverseConstant_70 rfl ?_
  refine zx_iald E zg_56 x3.isLt dd_Planner_inverseConstant_72 ?_
  refine zx_leti (fun y1 => ?_)
  refine zx_istore E (lv1 := [(5, .int y1), (0, zx_rV (zx_BK B) 16 0), (1, zx_rV (zx_BK B) 54 x1.val), (2, .int x2), (3, zx_rV (zx_BK B) 54 x3.val), (4, .int x4)]) dd_Planner_inverseConstant_73 (by decide) rfl ?_
  refine zx_aload_n E 1 dd_Planner_inverseConstant_75 rfl rfl ?_
  refine zx_getR E 1 0 zd_Planner_types zg_16 Nat.zero_lt_one (zr_Planner_types _) zw_273 dd_Planner_inverseConstant_76 ?_
  refine zx_aload_n E 2 dd_Planner_inverseConstant_79 rfl rfl ?_
  refine zx_getI E zd_Method_to zg_54 x1.isLt zw_156 dd_Planner_inverseConstant_80 ?_
  refine zx_iload E 0 dd_Planner_inverseConstant_83 rfl ?_
  refine zx_i2l E dd_Planner_inverseConstant_85 ?_
  refine zx_callV_i (T := zx_TTypes) E [.int (h.1 54 x1.val 1), .long (y1.toInt64)] (fun rZ eZ => zt_Types_placeOf _ _ (h.1 54 x1.val 1) (y1.toInt64) h _ eZ) zg_1 Nat.zero_lt_one rfl zc_Planner_126 ⟨by decide, by decide⟩ (Nat.zero_le _) (Nat.zero_le _) rfl rfl (Nat.le_of_ble_eq_true rfl) dd_Planner_inverseConstant_86 (fun r2 => ?_)
  refine zx_iconst E (-1 : Int32) dd_Planner_inverseConstant_89 (by decide) ?_
  refine zx_icmp_eq E 98 dd_Planner_inverseConstant_90 rfl ?_ ?_
  rotate_left
  · refine zx_iconst E (-1 : Int32) dd_Planner_inverseConstant_98 (by decide) ?_
    exact zx_iret E rfl rfl dd_Planner_inverseConstant_99
  refine zx_iload E 0 dd_Planner_inverseConstant_93 rfl ?_
  refine zx_goto E 99 dd_Planner_inverseConstant_95 rfl ?_
  exact zx_iret E rfl rfl dd_Planner_inverseConstant_99
theorem zj_Planner_inverseConstant_33 {B : zx_B} (E : zx_E B zm_Planner_inverseConstant) (h : zx_H)  : ∀ (x1 : Fin 16) (x2 : Int32) (x3 : Fin 16) (x4 : Int32), zx_X B zm_Planner_inverseConstant (zx_QM B (fun r => ((some (Value.int r) : Option Value), h))) (zs_Planner_inverseConstant_L33 h  x1 x2 x3 x4) 0 0 33 [(0, zx_rV (zx_BK B) 16 0), (1, zx_rV (zx_BK B) 54 x1.val), (2, .int x2), (3, zx_rV (zx_BK B) 54 x3.val), (4, .int x4)] [] h := by
  unfold zs_Planner_inverseConstant_L33
  generalize zx_fuel = n
  induction n with
  | zero => intros; exact zx_non
  | succ n ih => intro x1 x2 x3 x4; exact zb_Planner_inverseConstant_33 E h  _ ih x1 x2 x3 x4
set_option maxHeartbeats 4000000 in
set_option maxRecDepth 20000 in
theorem zt_Planner_inverseConstant (l : Launch) (K : zx_K) (a1 : Fin 16) (a2 : Int32) (h : zx_H) (r : Int32) (hf : zs_Planner_inverseConstant a1 a2 h = some r) : zx_MR l zm_Planner_inverseConstant zy_Planner_inverseConstant K [zx_rV K 16 0, zx_rV K 54 a1.val, .int a2] h (some (.int r)) h := by
  refine zx_ofM (M := zm_Planner_inverseConstant) (y := zy_Planner_inverseConstant) (r := r) (as := [zx_rV K 16 0, zx_rV K 54 a1.val, .int a2]) (ρ := (fun r => ((some (Value.int r) : Option Value), h))) (by decide) rfl hf (Nat.le_of_ble_eq_true rfl) ?_
  intro B hl hK E
  subst hK
  subst hl
  show zx_X B zm_Planner_inverseConstant _ _ 0 0 0 [(0, zx_rV (zx_BK B) 16 0), (1, zx_rV (zx_BK B) 54 a1.val), (2, .int a2)] [] h
  unfold zs_Planner_inverseConstant
  refine zx_aload_n E 0 dd_Planner_inverseConstant_0 rfl rfl ?_
  refine zx_getR E 11 0 zd_Planner_model zg_16 Nat.zero_lt_one (zr_Planner_model _) zw_274 dd_Planner_inverseConstant_1 ?_
  refine zx_aload_n E 1 dd_Planner_inverseConstant_4 rfl rfl ?_
  refine zx_getI E zd_Method_inverse zg_54 a1.isLt zw_172 dd_Planner_inverseConstant_5 ?_
  refine zx_i2l E dd_Planner_inverseConstant_8 ?_
  refine zx_callV_z (T := zx_TModel) E [.long ((h.1 54 a1.val 6).toInt64)] (fun rZ eZ => zt_Model_hasMethod _ _ ((h.1 54 a1.val 6).toInt64) h _ eZ) zg_11 Nat.zero_lt_one rfl zc_Planner_112 ⟨by decide, by decide⟩ (Nat.zero_le _) (Nat.zero_le _) rfl rfl (Nat.le_of_ble_eq_true rfl) dd_Planner_inverseConstant_9 (fun r1 => ?_)
  refine zx_ifb_ne E (x := r1) 17 dd_Planner_inverseConstant_12 rfl ?_ ?_
  · refine zx_iconst E (-1 : Int32) dd_Planner_inverseConstant_15 (by decide) ?_
    exact zx_iret E rfl rfl dd_Planner_inverseConstant_16
  refine zx_aload_n E 0 dd_Planner_inverseConstant_17 rfl rfl ?_
  refine zx_getR E 11 0 zd_Planner_model zg_16 Nat.zero_lt_one (zr_Planner_model _) zw_274 dd_Planner_inverseConstant_18 ?_
  refine zx_getR E 13 0 zd_Model_methods zg_11 Nat.zero_lt_one (zr_Model_methods _) zw_207 dd_Planner_inverseConstant_21 ?_
  refine zx_aload_n E 1 dd_Planner_inverseConstant_24 rfl rfl ?_
  refine zx_getI E zd_Method_inverse zg_54 a1.isLt zw_172 dd_Planner_inverseConstant_25 ?_
  refine zx_aaldM E dd_Planner_inverseConstant_28 (fun j2 => ?_)
  refine zx_astore_n E (lv1 := [(3, zx_rV (zx_BK B) 54 j2.val), (0, zx_rV (zx_BK B) 16 0), (1, zx_rV (zx_BK B) 54 a1.val), (2, .int a2)]) dd_Planner_inverseConstant_29 rfl (by decide) rfl ?_
  refine zx_iconst E (0 : Int32) dd_Planner_inverseConstant_30 (by decide) ?_
  refine zx_istore E (lv1 := [(4, .int (0 : Int32)), (3, zx_rV (zx_BK B) 54 j2.val), (0, zx_rV (zx_BK B) 16 0), (1, zx_rV (zx_BK B) 54 a1.val), (2, .int a2)]) dd_Planner_inverseConstant_31 (by decide) rfl ?_
  refine zx_sub [2, 3, 4, 1, 0] rfl ?_
  exact zj_Planner_inverseConstant_33 E h a1 a2 j2 (0 : Int32)
set_option maxHeartbeats 4000000 in
set_option maxRecDepth 20000 in
theorem zt_Planner_becoming (l : Launch) (K : zx_K) (a1 : Fin 16) (a2 : Int32) (h : zx_H) (r : Int64) (hf : zs_Planner_becoming a1 a2 h = some r) : zx_MR l zm_Planner_becoming zy_Planner_becoming K [zx_rV K 16 0, zx_rV K 54 a1.val, .int a2] h (some (.long r)) h := by
  refine zx_ofM (M := zm_Planner_becoming) (y := zy_Planner_becoming) (r := r) (as := [zx_rV K 16 0, zx_rV K 54 a1.val, .int a2]) (ρ := (fun r => ((some (Value.long r) : Option Value), h))) (by decide) rfl hf (Nat.le_of_ble_eq_true rfl) ?_
  intro B hl hK E
  subst hK
  subst hl
  show zx_X B zm_Planner_becoming _ _ 0 0 0 [(0, zx_rV (zx_BK B) 16 0), (1, zx_rV (zx_BK B) 54 a1.val), (2, .int a2)] [] h
  unfold zs_Planner_becoming
  refine zx_aload_n E 1 dd_Planner_becoming_0 rfl rfl ?_
  refine zx_iconst E (5 : Int32) dd_Planner_becoming_1 (by decide) ?_
  refine zx_iload_n E 2 dd_Planner_becoming_2 rfl rfl ?_
  refine zx_callV_i (T := zx_TMethod) E [.int (5 : Int32), .int a2] (fun rZ eZ => zt_Method_first _ _ a1 (5 : Int32) a2 h _ eZ) zg_54 a1.isLt rfl zc_Planner_152 ⟨by decide, by decide⟩ (Nat.zero_le _) (Nat.zero_le _) rfl rfl (Nat.le_of_ble_eq_true rfl) dd_Planner_becoming_3 (fun r1 => ?_)
  refine zx_istore_n E (lv1 := [(3, .int r1), (0, zx_rV (zx_BK B) 16 0), (1, zx_rV (zx_BK B) 54 a1.val), (2, .int a2)]) dd_Planner_becoming_6 rfl (by decide) rfl ?_
  refine zx_iload_n E 0 dd_Planner_becoming_7 rfl rfl ?_
  refine zx_iconst E (-1 : Int32) dd_Planner_becoming_8 (by decide) ?_
  refine zx_icmp_eq E 19 dd_Planner_becoming_9 rfl ?_ ?_
  · refine zx_aload_n E 2 dd_Planner_becoming_12 rfl rfl ?_
    refine zx_getR E 57 a1.val zd_Method_whats zg_54 a1.isLt (zr_Method_whats _) zw_170 dd_Planner_becoming_13 ?_
    refine zx_iload_n E 0 dd_Planner_becoming_16 rfl rfl ?_
    refine zx_lald E zg_57 a1.isLt dd_Planner_becoming_17 ?_
    exact zx_lret E rfl rfl dd_Planner_becoming_18
  refine zx_aload_n E 1 dd_Planner_becoming_19 rfl rfl ?_
  refine zx_aload_n E 2 dd_Planner_becoming_20 rfl rfl ?_
  refine zx_iload_n E 3 dd_Planner_becoming_21 rfl rfl ?_
  refine zx_callV_i (T := zx_TPlanner) E [zx_rV (zx_BK B) 54 a1.val, .int a2] (fun rZ eZ => zt_Planner_inverseConstant _ _ a1 a2 h _ eZ) zg_16 Nat.zero_lt_one rfl zc_Planner_211 ⟨by decide, by decide⟩ (Nat.zero_le _) (Nat.zero_le _) rfl rfl (Nat.le_of_ble_eq_true rfl) dd_Planner_becoming_22 (fun r2 => ?_)
  refine zx_istore E (lv1 := [(4, .int r2), (3, .int r1), (0, zx_rV (zx_BK B) 16 0), (1, zx_rV (zx_BK B) 54 a1.val), (2, .int a2)]) dd_Planner_becoming_25 (by decide) rfl ?_
  refine zx_iload E 0 dd_Planner_becoming_27 rfl ?_
  refine zx_iconst E (-1 : Int32) dd_Planner_becoming_29 (by decide) ?_
  refine zx_icmp_eq E 37 dd_Planner_becoming_30 rfl ?_ ?_
  · refine zx_iload E 0 dd_Planner_becoming_33 rfl ?_
    refine zx_i2l E dd_Planner_becoming_35 ?_
    exact zx_lret E rfl rfl dd_Planner_becoming_36
  refine zx_aload_n E 2 dd_Planner_becoming_37 rfl rfl ?_
  refine zx_getR E 1 0 zd_Planner_types zg_16 Nat.zero_lt_one (zr_Planner_types _) zw_273 dd_Planner_becoming_38 ?_
  refine zx_aload_n E 3 dd_Planner_becoming_41 rfl rfl ?_
  refine zx_getI E zd_Method_to zg_54 a1.isLt zw_156 dd_Planner_becoming_42 ?_
  refine zx_iload_n E 4 dd_Planner_becoming_45 rfl rfl ?_
  refine zx_i2l E dd_Planner_becoming_46 ?_
  refine zx_callV_i (T := zx_TTypes) E [.int (h.1 54 a1.val 1), .long (a2.toInt64)] (fun rZ eZ => zt_Types_placeOf _ _ (h.1 54 a1.val 1) (a2.toInt64) h _ eZ) zg_1 Nat.zero_lt_one rfl zc_Planner_126 ⟨by decide, by decide⟩ (Nat.zero_le _) (Nat.zero_le _) rfl rfl (Nat.le_of_ble_eq_true rfl) dd_Planner_becoming_47 (fun r3 => ?_)
  refine zx_iconst E (-1 : Int32) dd_Planner_becoming_50 (by decide) ?_
  refine zx_icmp_eq E 57 dd_Planner_becoming_51 rfl ?_ ?_
  · refine zx_iload_n E 4 dd_Planner_becoming_54 rfl rfl ?_
    refine zx_i2l E dd_Planner_becoming_55 ?_
    exact zx_lret E rfl rfl dd_Planner_becoming_56
  refine zx_aload_n E 3 dd_Planner_becoming_57 rfl rfl ?_
  refine zx_bipush E (6 : Int32) dd_Planner_becoming_58 (by decide) ?_
  refine zx_callV_i (T := zx_TMethod) E [.int (6 : Int32)] (fun rZ eZ => zt_Method_latest _ _ a1 (6 : Int32) h _ eZ) zg_54 a1.isLt rfl zc_Planner_73 ⟨by decide, by decide⟩ (Nat.zero_le _) (Nat.zero_le _) rfl rfl (Nat.le_of_ble_eq_true rfl) dd_Planner_becoming_60 (fun r4 => ?_)
  refine zx_istore E (lv1 := [(5, .int r4), (4, .int r2), (3, .int r1), (0, zx_rV (zx_BK B) 16 0), (1, zx_rV (zx_BK B) 54 a1.val), (2, .int a2)]) dd_Planner_becoming_63 (by decide) rfl ?_
  refine zx_iload E 0 dd_Planner_becoming_65 rfl ?_
  refine zx_iconst E (-1 : Int32) dd_Planner_becoming_67 (by decide) ?_
  refine zx_icmp_ne E 77 dd_Planner_becoming_68 rfl ?_ ?_
  · refine zx_ldc2 E (-3 : Int64) zw_781 dd_Planner_becoming_71 ?_
    refine zx_goto E 84 dd_Planner_becoming_74 rfl ?_
    exact zx_lret E rfl rfl dd_Planner_becoming_84
  refine zx_aload_n E 4 dd_Planner_becoming_77 rfl rfl ?_
  refine zx_getR E 57 a1.val zd_Method_whats zg_54 a1.isLt (zr_Method_whats _) zw_170 dd_Planner_becoming_78 ?_
  refine zx_iload E 0 dd_Planner_becoming_81 rfl ?_
  refine zx_lald E zg_57 a1.isLt dd_Planner_becoming_83 ?_
  exact zx_lret E rfl rfl dd_Planner_becoming_84
set_option maxHeartbeats 4000000 in
set_option maxRecDepth 20000 in
theorem zt_Planner_planConstant (l : Launch) (K : zx_K) (a1 : Fin 16) (a2 : Int32) (h : zx_H) (r : (Int32 × zx_H)) (hf : zs_Planner_planConstant a1 a2 h = some r) : zx_MR l zm_Planner_planConstant zy_Planner_planConstant K [zx_rV K 16 0, zx_rV K 54 a1.val, .int a2] h (some (.int r.1)) r.2 := by
  refine zx_ofM (M := zm_Planner_planConstant) (y := zy_Planner_planConstant) (r := r) (as := [zx_rV K 16 0, zx_rV K 54 a1.val, .int a2]) (ρ := (fun r => ((some (Value.int r.1) : Option Value), r.2))) (by decide) rfl hf (Nat.le_of_ble_eq_true rfl) ?_
  intro B hl hK E
  subst hK
  subst hl
  show zx_X B zm_Planner_planConstant _ _ 0 0 0 [(0, zx_rV (zx_BK B) 16 0), (1, zx_rV (zx_BK B) 54 a1.val), (2, .int a2)] [] h
  unfold zs_Planner_planConstant
  refine zx_aload_n E 0 dd_Planner_planConstant_0 rfl rfl ?_
  refine zx_aload_n E 1 dd_Planner_planConstant_1 rfl rfl ?_
  refine zx_aload_n E 0 dd_Planner_planConstant_2 rfl rfl ?_
  refine zx_getR E 1 0 zd_Planner_types zg_16 Nat.zero_lt_one (zr_Planner_types _) zw_273 dd_Planner_planConstant_3 ?_
  refine zx_aload_n E 1 dd_Planner_planConstant_6 rfl rfl ?_
  refine zx_getI E zd_Method_from zg_54 a1.isLt zw_152 dd_Planner_planConstant_7 ?_
  refine zx_iload_n E 2 dd_Planner_planConstant_10 rfl rfl ?_
  refine zx_callV_i (T := zx_TTypes) E [.int (h.1 54 a1.val 0), .int a2] (fun rZ eZ => zt_Types_nameAt _ _ (h.1 54 a1.val 0) a2 h _ eZ) zg_1 Nat.zero_lt_one rfl zc_Planner_145 ⟨by decide, by decide⟩ (Nat.zero_le _) (Nat.zero_le _) rfl rfl (Nat.le_of_ble_eq_true rfl) dd_Planner_planConstant_11 (fun r1 => ?_)
  refine zx_callV_l (T := zx_TPlanner) E [zx_rV (zx_BK B) 54 a1.val, .int r1] (fun rZ eZ => zt_Planner_becoming _ _ a1 r1 h _ eZ) zg_16 Nat.zero_lt_one rfl zc_Planner_203 ⟨by decide, by decide⟩ (Nat.zero_le _) (Nat.zero_le _) rfl rfl (Nat.le_of_ble_eq_true rfl) dd_Planner_planConstant_14 (fun r2 => ?_)
  refine zx_lstore_n E (lv1 := [(3, .long r2), (0, zx_rV (zx_BK B) 16 0), (1, zx_rV (zx_BK B) 54 a1.val), (2, .int a2)]) dd_Planner_planConstant_17 rfl (by decide) rfl ?_
  refine zx_lload_n E 0 dd_Planner_planConstant_18 rfl rfl ?_
  refine zx_ldc2 E (-3 : Int64) zw_781 dd_Planner_planConstant_19 ?_
  refine zx_lcmp_ne E 28 dd_Planner_planConstant_22 dd_Planner_planConstant_23 rfl ?_ ?_
  · refine zx_iconst E (5 : Int32) dd_Planner_planConstant_26 (by decide) ?_
    exact zx_iret E rfl rfl dd_Planner_planConstant_27
  refine zx_aload_n E 2 dd_Planner_planConstant_28 rfl rfl ?_
  refine zx_getR E 59 a1.val zd_Method_becomes zg_54 a1.isLt (zr_Method_becomes _) zw_180 dd_Planner_planConstant_29 ?_
  refine zx_iload_n E 3 dd_Planner_planConstant_32 rfl rfl ?_
  refine zx_lload_n E 0 dd_Planner_planConstant_33 rfl rfl ?_
  refine zx_lconst E (0 : Int64) dd_Planner_planConstant_34 rfl ?_
  refine zx_lcmp_lt E 54 dd_Planner_planConstant_35 dd_Planner_planConstant_36 rfl ?_ ?_
  rotate_left
  · refine zx_lload_n E 0 dd_Planner_planConstant_54 rfl rfl ?_
    refine zx_l2i E dd_Planner_planConstant_55 ?_
    refine zx_iast E zg_59 a1.isLt dd_Planner_planConstant_56 ?_
    refine zx_letH (fun h5 => ?_)
    refine zx_iconst E (0 : Int32) dd_Planner_planConstant_57 (by decide) ?_
    exact zx_iret E rfl rfl dd_Planner_planConstant_58
  refine zx_aload_n E 1 dd_Planner_planConstant_39 rfl rfl ?_
  refine zx_getR E 1 0 zd_Planner_types zg_16 Nat.zero_lt_one (zr_Planner_types _) zw_273 dd_Planner_planConstant_40 ?_
  refine zx_aload_n E 2 dd_Planner_planConstant_43 rfl rfl ?_
  refine zx_getI E zd_Method_to zg_54 a1.isLt zw_156 dd_Planner_planConstant_44 ?_
  refine zx_lload_n E 0 dd_Planner_planConstant_47 rfl rfl ?_
  refine zx_callV_i (T := zx_TTypes) E [.int (h.1 54 a1.val 1), .long r2] (fun rZ eZ => zt_Types_placeOf _ _ (h.1 54 a1.val 1) r2 h _ eZ) zg_1 Nat.zero_lt_one rfl zc_Planner_126 ⟨by decide, by decide⟩ (Nat.zero_le _) (Nat.zero_le _) rfl rfl (Nat.le_of_ble_eq_true rfl) dd_Planner_planConstant_48 (fun r3 => ?_)
  refine zx_goto E 56 dd_Planner_planConstant_51 rfl ?_
  refine zx_iast E zg_59 a1.isLt dd_Planner_planConstant_56 ?_
  refine zx_letH (fun h4 => ?_)
  refine zx_iconst E (0 : Int32) dd_Planner_planConstant_57 (by decide) ?_
  exact zx_iret E rfl rfl dd_Planner_planConstant_58
set_option maxHeartbeats 4000000 in
set_option maxRecDepth 20000 in
theorem zj_Planner_planDefault_45 {B : zx_B} (E : zx_E B zm_Planner_planDefault)  (x1 : Fin 16) (x2 : Int32) (x3 : Fin 129) (x4 : Int32) (s0 : Fin 129) (s1 : Bool) (h : zx_H) : zx_X B zm_Planner_planDefault (zx_QM B (fun r => ((some (Value.int r.1) : Option Value), r.2))) (zs_Planner_planDefault_J45  x1 x2 x3 x4 s0 s1 h) 0 0 45 [(0, zx_rV (zx_BK B) 16 0), (1, zx_rV (zx_BK B) 54 x1.val), (2, .int x2), (3, zx_rV (zx_BK B) 60 x3.val), (4, .int x4)] [.int (zx_b s1), zx_rV (zx_BK B) 60 s0.val] h := by
  unfold zs_Planner_planDefault_J45
  refine zx_putI E zd_Plan_hasDefault zp_Plan_hasDefault zg_60 s0.isLt (zx_nb _) (zx_fb _) zw_127 dd_Planner_planDefault_45 ?_
  refine zx_letH (fun h1 => ?_)
  refine zx_aload_n E 3 dd_Planner_planDefault_48 rfl rfl ?_
  refine zx_getI E zd_Plan_hasDefault zg_60 x3.isLt zw_127 dd_Planner_planDefault_49 ?_
  refine zx_if_ne E 57 dd_Planner_planDefault_52 rfl ?_ ?_
  · refine zx_iconst E (0 : Int32) dd_Planner_planDefault_55 (by decide) ?_
    exact zx_iret E rfl rfl dd_Planner_planDefault_56
  refine zx_aload_n E 3 dd_Planner_planDefault_57 rfl rfl ?_
  refine zx_aload_n E 1 dd_Planner_planDefault_58 rfl rfl ?_
  refine zx_getR E 57 x1.val zd_Method_whats zg_54 x1.isLt (zr_Method_whats _) zw_170 dd_Planner_planDefault_59 ?_
  refine zx_iload E 4 dd_Planner_planDefault_62 rfl ?_
  refine zx_lald E zg_57 x1.isLt dd_Planner_planDefault_64 ?_
  refine zx_putJ E zd_Plan_fallback zp_Plan_fallback zg_60 x3.isLt zw_129 dd_Planner_planDefault_65 ?_
  refine zx_letH (fun h2 => ?_)
  refine zx_aload_n E 3 dd_Planner_planDefault_68 rfl rfl ?_
  refine zx_aload_n E 0 dd_Planner_planDefault_69 rfl rfl ?_
  refine zx_getR E 14 0 zd_Planner_ways zg_16 Nat.zero_lt_one (zr_Planner_ways _) zw_275 dd_Planner_planDefault_70 ?_
  refine zx_iconst E (4 : Int32) dd_Planner_planDefault_73 (by decide) ?_
  refine zx_aload_n E 0 dd_Planner_planDefault_74 rfl rfl ?_
  refine zx_getR E 1 0 zd_Planner_types zg_16 Nat.zero_lt_one (zr_Planner_types _) zw_273 dd_Planner_planDefault_75 ?_
  refine zx_aload_n E 1 dd_Planner_planDefault_78 rfl rfl ?_
  refine zx_getI E zd_Method_to zg_54 x1.isLt zw_156 dd_Planner_planDefault_79 ?_
  refine zx_iload_n E 2 dd_Planner_planDefault_82 rfl rfl ?_
  refine zx_callV_i (T := zx_TTypes) E [.int (h2.1 54 x1.val 1), .int x2] (fun rZ eZ => zt_Types_typeAt _ _ (h2.1 54 x1.val 1) x2 h2 _ eZ) zg_1 Nat.zero_lt_one rfl zc_Planner_149 ⟨by decide, by decide⟩ (Nat.zero_le _) (Nat.zero_le _) rfl rfl (Nat.le_of_ble_eq_true rfl) dd_Planner_planDefault_83 (fun r3 => ?_)
  refine zx_callV_iw (T := zx_TWays) E [.int (4 : Int32), .int r3] (fun rZ eZ => zt_Ways_find _ _ (4 : Int32) r3 h2 _ eZ) zg_14 Nat.zero_lt_one rfl zc_Planner_162 ⟨by decide, by decide⟩ (Nat.zero_le _) (Nat.zero_le _) rfl rfl (Nat.le_of_ble_eq_true rfl) dd_Planner_planDefault_86 (fun r4 => ?_)
  refine zx_putI E zd_Plan_fallbackWay zp_Plan_fallbackWay zg_60 x3.isLt rfl rfl zw_131 dd_Planner_planDefault_89 ?_
  refine zx_letH (fun h5 => ?_)
  refine zx_aload_n E 0 dd_Planner_planDefault_92 rfl rfl ?_
  refine zx_aload_n E 3 dd_Planner_planDefault_93 rfl rfl ?_
  refine zx_getI E zd_Plan_fallbackWay zg_60 x3.isLt zw_131 dd_Planner_planDefault_94 ?_
  refine zx_callV_i (T := zx_TPlanner) E [.int (h5.1 60 x3.val 8)] (fun rZ eZ => zt_Planner_faultOf _ _ (h5.1 60 x3.val 8) h5 _ eZ) zg_16 Nat.zero_lt_one rfl zc_Planner_170 ⟨by decide, by decide⟩ (Nat.zero_le _) (Nat.zero_le _) rfl rfl (Nat.le_of_ble_eq_true rfl) dd_Planner_planDefault_97 (fun r6 => ?_)
  exact zx_iret E rfl rfl dd_Planner_planDefault_100
set_option maxHeartbeats 4000000 in
set_option maxRecDepth 20000 in
theorem zj_Planner_planDefault_44 {B : zx_B} (E : zx_E B zm_Planner_planDefault)  (x1 : Fin 16) (x2 : Int32) (x3 : Fin 129) (x4 : Int32) (s0 : Fin 129) (h : zx_H) : zx_X B zm_Planner_planDefault (zx_QM B (fun r => ((some (Value.int r.1) : Option Value), r.2))) (zs_Planner_planDefault_J44  x1 x2 x3 x4 s0 h) 0 0 44 [(0, zx_rV (zx_BK B) 16 0), (1, zx_rV (zx_BK B) 54 x1.val), (2, .int x2), (3, zx_rV (zx_BK B) 60 x3.val), (4, .int x4)] [zx_rV (zx_BK B) 60 s0.val] h := by
  unfold zs_Planner_planDefault_J44
  refine zx_iconst E (0 : Int32) dd_Planner_planDefault_44 (by decide) ?_
  exact zj_Planner_planDefault_45 E x1 x2 x3 x4 s0 false h
set_option maxHeartbeats 4000000 in
set_option maxRecDepth 20000 in
theorem zt_Planner_planDefault (l : Launch) (K : zx_K) (a1 : Fin 16) (a2 : Int32) (h : zx_H) (r : (Int32 × zx_H)) (hf : zs_Planner_planDefault a1 a2 h = some r) : zx_MR l zm_Planner_planDefault zy_Planner_planDefault K [zx_rV K 16 0, zx_rV K 54 a1.val, .int a2] h (some (.int r.1)) r.2 := by
  refine zx_ofM (M := zm_Planner_planDefault) (y := zy_Planner_planDefault) (r := r) (as := [zx_rV K 16 0, zx_rV K 54 a1.val, .int a2]) (ρ := (fun r => ((some (Value.int r.1) : Option Value), r.2))) (by decide) rfl hf (Nat.le_of_ble_eq_true rfl) ?_
  intro B hl hK E
  subst hK
  subst hl
  show zx_X B zm_Planner_planDefault _ _ 0 0 0 [(0, zx_rV (zx_BK B) 16 0), (1, zx_rV (zx_BK B) 54 a1.val), (2, .int a2)] [] h
  unfold zs_Planner_planDefault
  refine zx_aload_n E 1 dd_Planner_planDefault_0 rfl rfl ?_
  refine zx_getR E 58 a1.val zd_Method_plans zg_54 a1.isLt (zr_Method_plans _) zw_177 dd_Planner_planDefault_1 ?_
  refine zx_iload_n E 2 dd_Planner_planDefault_4 rfl rfl ?_
  refine zx_aaldP E dd_Planner_planDefault_5 (fun j1 => ?_)
  refine zx_astore_n E (lv1 := [(3, zx_rV (zx_BK B) 60 (zx_pp a1 j1).val), (0, zx_rV (zx_BK B) 16 0), (1, zx_rV (zx_BK B) 54 a1.val), (2, .int a2)]) dd_Planner_planDefault_6 rfl (by decide) rfl ?_
  refine zx_aload_n E 2 dd_Planner_planDefault_7 rfl rfl ?_
  refine zx_iconst E (3 : Int32) dd_Planner_planDefault_8 (by decide) ?_
  refine zx_aload_n E 1 dd_Planner_planDefault_9 rfl rfl ?_
  refine zx_getR E 1 0 zd_Planner_types zg_16 Nat.zero_lt_one (zr_Planner_types _) zw_273 dd_Planner_planDefault_10 ?_
  refine zx_aload_n E 2 dd_Planner_planDefault_13 rfl rfl ?_
  refine zx_getI E zd_Method_to zg_54 a1.isLt zw_156 dd_Planner_planDefault_14 ?_
  refine zx_iload_n E 3 dd_Planner_planDefault_17 rfl rfl ?_
  refine zx_callV_i (T := zx_TTypes) E [.int (h.1 54 a1.val 1), .int a2] (fun rZ eZ => zt_Types_nameAt _ _ (h.1 54 a1.val 1) a2 h _ eZ) zg_1 Nat.zero_lt_one rfl zc_Planner_145 ⟨by decide, by decide⟩ (Nat.zero_le _) (Nat.zero_le _) rfl rfl (Nat.le_of_ble_eq_true rfl) dd_Planner_planDefault_18 (fun r2 => ?_)
  refine zx_callV_i (T := zx_TMethod) E [.int (3 : Int32), .int r2] (fun rZ eZ => zt_Method_first _ _ a1 (3 : Int32) r2 h _ eZ) zg_54 a1.isLt rfl zc_Planner_152 ⟨by decide, by decide⟩ (Nat.zero_le _) (Nat.zero_le _) rfl rfl (Nat.le_of_ble_eq_true rfl) dd_Planner_planDefault_21 (fun r3 => ?_)
  refine zx_istore E (lv1 := [(4, .int r3), (3, zx_rV (zx_BK B) 60 (zx_pp a1 j1).val), (0, zx_rV (zx_BK B) 16 0), (1, zx_rV (zx_BK B) 54 a1.val), (2, .int a2)]) dd_Planner_planDefault_24 (by decide) rfl ?_
  refine zx_aload_n E 1 dd_Planner_planDefault_26 rfl rfl ?_
  refine zx_aload_n E 1 dd_Planner_planDefault_27 rfl rfl ?_
  refine zx_getI E zd_Plan_origin zg_60 (zx_pp a1 j1).isLt zw_114 dd_Planner_planDefault_28 ?_
  refine zx_if_ne E 44 dd_Planner_planDefault_31 rfl ?_ ?_
  rotate_left
  · refine zx_sub [2, 3, 4, 1, 0] rfl ?_
    exact zj_Planner_planDefault_44 E a1 a2 (zx_pp a1 j1) r3 (zx_pp a1 j1) h
  refine zx_iload E 0 dd_Planner_planDefault_34 rfl ?_
  refine zx_iconst E (-1 : Int32) dd_Planner_planDefault_36 (by decide) ?_
  refine zx_icmp_eq E 44 dd_Planner_planDefault_37 rfl ?_ ?_
  rotate_left
  · refine zx_sub [2, 3, 4, 1, 0] rfl ?_
    exact zj_Planner_planDefault_44 E a1 a2 (zx_pp a1 j1) r3 (zx_pp a1 j1) h
  refine zx_iconst E (1 : Int32) dd_Planner_planDefault_40 (by decide) ?_
  refine zx_goto E 45 dd_Planner_planDefault_41 rfl ?_
  refine zx_sub [2, 3, 4, 1, 0] rfl ?_
  exact zj_Planner_planDefault_45 E a1 a2 (zx_pp a1 j1) r3 (zx_pp a1 j1) true h
set_option maxHeartbeats 4000000 in
set_option maxRecDepth 20000 in
theorem zj_Planner_planMethod_184 {B : zx_B} (E : zx_E B zm_Planner_planMethod) (k119 : (Fin 16 → Bool → Int32 → Int32 → zx_H → Option zx_H)) (hk119 : ∀ (x1 : Fin 16) (x3 : Bool) (x4 : Int32) (x5 : Int32) (h : zx_H), zx_X B zm_Planner_planMethod (zx_QM B (fun r => ((none : Option Value), r))) (k119 x1 x3 x4 x5 h) 0 0 119 [(0, zx_rV (zx_BK B) 16 0), (1, zx_rV (zx_BK B) 54 x1.val), (3, .int (zx_b x3)), (4, .int x4), (5, .int x5)] [] h) (x1 : Fin 16) (x3 : Bool) (x4 : Int32) (x5 : Int32) (h : zx_H) : zx_X B zm_Planner_planMethod (zx_QM B (fun r => ((none : Option Value), r))) (zs_Planner_planMethod_J184 k119 x1 x3 x4 x5 h) 0 0 184 [(0, zx_rV (zx_BK B) 16 0), (1, zx_rV (zx_BK B) 54 x1.val), (3, .int (zx_b x3)), (4, .int x4), (5, .int x5)] [] h := by
  unfold zs_Planner_planMethod_J184
  refine zx_iinc E 4 (x5 + (1 : Int32)) (lv1 := [(5, .int (x5 + (1 : Int32))), (0, zx_rV (zx_BK B) 16 0), (1, zx_rV (zx_BK B) 54 x1.val), (3, .int (zx_b x3)), (4, .int x4)]) dd_Planner_planMethod_184 rfl rfl (by decide) rfl ?_
  refine zx_goto E 119 dd_Planner_planMethod_187 rfl ?_
  refine zx_sub [1, 2, 3, 4, 0] rfl ?_
  exact hk119 x1 x3 x4 (x5 + (1 : Int32)) h
set_option maxHeartbeats 4000000 in
set_option maxRecDepth 20000 in
theorem zj_Planner_planMethod_155 {B : zx_B} (E : zx_E B zm_Planner_planMethod) (k119 : (Fin 16 → Bool → Int32 → Int32 → zx_H → Option zx_H)) (hk119 : ∀ (x1 : Fin 16) (x3 : Bool) (x4 : Int32) (x5 : Int32) (h : zx_H), zx_X B zm_Planner_planMethod (zx_QM B (fun r => ((none : Option Value), r))) (k119 x1 x3 x4 x5 h) 0 0 119 [(0, zx_rV (zx_BK B) 16 0), (1, zx_rV (zx_BK B) 54 x1.val), (3, .int (zx_b x3)), (4, .int x4), (5, .int x5)] [] h) (x1 : Fin 16) (x3 : Bool) (x4 : Int32) (x5 : Int32) (s1 : Int32) (h : zx_H) : zx_X B zm_Planner_planMethod (zx_QM B (fun r => ((none : Option Value), r))) (zs_Planner_planMethod_J155 k119 x1 x3 x4 x5 s1 h) 0 0 155 [(0, zx_rV (zx_BK B) 16 0), (1, zx_rV (zx_BK B) 54 x1.val), (3, .int (zx_b x3)), (4, .int x4), (5, .int x5)] [.int s1, zx_rV (zx_BK B) 16 0] h := by
  unfold zs_Planner_planMethod_J155
  refine zx_iload E 4 dd_Planner_planMethod_155 rfl ?_
  refine zx_callV_v (T := zx_TPlanner) E [.int s1, .int x5] (fun rZ eZ => zt_Planner_note _ _ s1 x5 h _ eZ) zg_16 Nat.zero_lt_one rfl zc_Planner_69 ⟨by decide, by decide⟩ (Nat.zero_le _) (Nat.zero_le _) rfl rfl (Nat.le_of_ble_eq_true rfl) dd_Planner_planMethod_157 (fun r1 => ?_)
  refine zx_iload_n E 2 dd_Planner_planMethod_160 rfl rfl ?_
  refine zx_ifb_eq E (x := x3) 184 dd_Planner_planMethod_161 rfl ?_ ?_
  rotate_left
  · exact zj_Planner_planMethod_184 E k119 hk119 x1 x3 x4 x5 r1
  refine zx_aload_n E 0 dd_Planner_planMethod_164 rfl rfl ?_
  refine zx_getI E zd_Planner_fault zg_16 Nat.zero_lt_one zw_277 dd_Planner_planMethod_165 ?_
  refine zx_if_ne E 184 dd_Planner_planMethod_168 rfl ?_ ?_
  rotate_left
  · exact zj_Planner_planMethod_184 E k119 hk119 x1 x3 x4 x5 r1
  refine zx_aload_n E 0 dd_Planner_planMethod_171 rfl rfl ?_
  refine zx_aload_n E 0 dd_Planner_planMethod_172 rfl rfl ?_
  refine zx_aload_n E 1 dd_Planner_planMethod_173 rfl rfl ?_
  refine zx_iload E 4 dd_Planner_planMethod_174 rfl ?_
  refine zx_callV_iw (T := zx_TPlanner) E [zx_rV (zx_BK B) 54 x1.val, .int x5] (fun rZ eZ => zt_Planner_planDefault _ _ x1 x5 r1 _ eZ) zg_16 Nat.zero_lt_one rfl zc_Planner_106 ⟨by decide, by decide⟩ (Nat.zero_le _) (Nat.zero_le _) rfl rfl (Nat.le_of_ble_eq_true rfl) dd_Planner_planMethod_176 (fun r2 => ?_)
  refine zx_iload E 4 dd_Planner_planMethod_179 rfl ?_
  refine zx_callV_v (T := zx_TPlanner) E [.int r2.1, .int x5] (fun rZ eZ => zt_Planner_note _ _ r2.1 x5 r2.2 _ eZ) zg_16 Nat.zero_lt_one rfl zc_Planner_69 ⟨by decide, by decide⟩ (Nat.zero_le _) (Nat.zero_le _) rfl rfl (Nat.le_of_ble_eq_true rfl) dd_Planner_planMethod_181 (fun r3 => ?_)
  exact zj_Planner_planMethod_184 E k119 hk119 x1 x3 x4 x5 r3
set_option maxHeartbeats 4000000 in
set_option maxRecDepth 20000 in
theorem zb_Planner_planMethod_119 {B : zx_B} (E : zx_E B zm_Planner_planMethod)  (k119 : (Fin 16 → Bool → Int32 → Int32 → zx_H → Option zx_H)) (hk119 : ∀ (x1 : Fin 16) (x3 : Bool) (x4 : Int32) (x5 : Int32) (h : zx_H), zx_X B zm_Planner_planMethod (zx_QM B (fun r => ((none : Option Value), r))) (k119 x1 x3 x4 x5 h) 0 0 119 [(0, zx_rV (zx_BK B) 16 0), (1, zx_rV (zx_BK B) 54 x1.val), (3, .int (zx_b x3)), (4, .int x4), (5, .int x5)] [] h) (x1 : Fin 16) (x3 : Bool) (x4 : Int32) (x5 : Int32) (h : zx_H) : zx_X B zm_Planner_planMethod (zx_QM B (fun r => ((none : Option Value), r))) (zs_Planner_planMethod_L119_body  k119 x1 x3 x4 x5 h) 0 0 119 [(0, zx_rV (zx_BK B) 16 0), (1, zx_rV (zx_BK B) 54 x1.val), (3, .int (zx_b x3)), (4, .int x4), (5, .int x5)] [] h := by
  unfold zs_Planner_planMethod_L119_body
  refine zx_iload E 4 dd_Planner_planMethod_119 rfl ?_
  refine zx_iload E 3 dd_Planner_planMethod_121 rfl ?_
  refine zx_icmp_ge E 190 dd_Planner_planMethod_123 rfl ?_ ?_
  rotate_left
  · exact zx_vret E rfl rfl dd_Planner_planMethod_190
  refine zx_aload_n E 0 dd_Planner_planMethod_126 rfl rfl ?_
  refine zx_getI E zd_Planner_fault zg_16 Nat.zero_lt_one zw_277 dd_Planner_planMethod_127 ?_
  refine zx_if_ne E 190 dd_Planner_planMethod_130 rfl ?_ ?_
  rotate_left
  · exact zx_vret E rfl rfl dd_Planner_planMethod_190
  refine zx_aload_n E 0 dd_Planner_planMethod_133 rfl rfl ?_
  refine zx_iload_n E 2 dd_Planner_planMethod_134 rfl rfl ?_
  refine zx_ifb_eq E (x := x3) 148 dd_Planner_planMethod_135 rfl ?_ ?_
  rotate_left
  · refine zx_aload_n E 0 dd_Planner_planMethod_148 rfl rfl ?_
    refine zx_aload_n E 1 dd_Planner_planMethod_149 rfl rfl ?_
    refine zx_iload E 4 dd_Planner_planMethod_150 rfl ?_
    refine zx_callV_iw (T := zx_TPlanner) E [zx_rV (zx_BK B) 54 x1.val, .int x5] (fun rZ eZ => zt_Planner_planConstant _ _ x1 x5 h _ eZ) zg_16 Nat.zero_lt_one rfl zc_Planner_103 ⟨by decide, by decide⟩ (Nat.zero_le _) (Nat.zero_le _) rfl rfl (Nat.le_of_ble_eq_true rfl) dd_Planner_planMethod_152 (fun r2 => ?_)
    exact zj_Planner_planMethod_155 E k119 hk119 x1 x3 x4 x5 r2.1 r2.2
  refine zx_aload_n E 0 dd_Planner_planMethod_138 rfl rfl ?_
  refine zx_aload_n E 1 dd_Planner_planMethod_139 rfl rfl ?_
  refine zx_iload E 4 dd_Planner_planMethod_140 rfl ?_
  refine zx_callV_iw (T := zx_TPlanner) E [zx_rV (zx_BK B) 54 x1.val, .int x5] (fun rZ eZ => zt_Planner_planProperty _ _ x1 x5 h _ eZ) zg_16 Nat.zero_lt_one rfl zc_Planner_100 ⟨by decide, by decide⟩ (Nat.zero_le _) (Nat.zero_le _) rfl rfl (Nat.le_of_ble_eq_true rfl) dd_Planner_planMethod_142 (fun r1 => ?_)
  refine zx_goto E 155 dd_Planner_planMethod_145 rfl ?_
  exact zj_Planner_planMethod_155 E k119 hk119 x1 x3 x4 x5 r1.1 r1.2
theorem zj_Planner_planMethod_119 {B : zx_B} (E : zx_E B zm_Planner_planMethod)  : ∀ (x1 : Fin 16) (x3 : Bool) (x4 : Int32) (x5 : Int32) (h : zx_H), zx_X B zm_Planner_planMethod (zx_QM B (fun r => ((none : Option Value), r))) (zs_Planner_planMethod_L119  x1 x3 x4 x5 h) 0 0 119 [(0, zx_rV (zx_BK B) 16 0), (1, zx_rV (zx_BK B) 54 x1.val), (3, .int (zx_b x3)), (4, .int x4), (5, .int x5)] [] h := by
  unfold zs_Planner_planMethod_L119
  generalize zx_fuel = n
  induction n with
  | zero => intros; exact zx_non
  | succ n ih => intro x1 x3 x4 x5 h; exact zb_Planner_planMethod_119 E  _ ih x1 x3 x4 x5 h
set_option maxHeartbeats 4000000 in
set_option maxRecDepth 20000 in
theorem zj_Planner_planMethod_111 {B : zx_B} (E : zx_E B zm_Planner_planMethod)  (x1 : Fin 16) (x3 : Bool) (s1 : Int32) (h : zx_H) : zx_X B zm_Planner_planMethod (zx_QM B (fun r => ((none : Option Value), r))) (zs_Planner_planMethod_J111  x1 x3 s1 h) 0 0 111 [(0, zx_rV (zx_BK B) 16 0), (1, zx_rV (zx_BK B) 54 x1.val), (3, .int (zx_b x3))] [.int s1, zx_rV (zx_BK B) 1 0] h := by
  unfold zs_Planner_planMethod_J111
  refine zx_callV_i (T := zx_TTypes) E [.int s1] (fun rZ eZ => zt_Types_memberCount _ _ s1 h _ eZ) zg_1 Nat.zero_lt_one rfl zc_Planner_97 ⟨by decide, by decide⟩ (Nat.zero_le _) (Nat.zero_le _) rfl rfl (Nat.le_of_ble_eq_true rfl) dd_Planner_planMethod_111 (fun r1 => ?_)
  refine zx_istore E (lv1 := [(4, .int r1), (0, zx_rV (zx_BK B) 16 0), (1, zx_rV (zx_BK B) 54 x1.val), (3, .int (zx_b x3))]) dd_Planner_planMethod_114 (by decide) rfl ?_
  refine zx_iconst E (0 : Int32) dd_Planner_planMethod_116 (by decide) ?_
  refine zx_istore E (lv1 := [(5, .int (0 : Int32)), (4, .int r1), (0, zx_rV (zx_BK B) 16 0), (1, zx_rV (zx_BK B) 54 x1.val), (3, .int (zx_b x3))]) dd_Planner_planMethod_117 (by decide) rfl ?_
  refine zx_sub [2, 3, 4, 1, 0] rfl ?_
  exact zj_Planner_planMethod_119 E x1 x3 r1 (0 : Int32) h
set_option maxHeartbeats 4000000 in
set_option maxRecDepth 20000 in
theorem zj_Planner_planMethod_77 {B : zx_B} (E : zx_E B zm_Planner_planMethod)  (x1 : Fin 16) (s0 : Fin 16) (s1 : Bool) (h : zx_H) : zx_X B zm_Planner_planMethod (zx_QM B (fun r => ((none : Option Value), r))) (zs_Planner_planMethod_J77  x1 s0 s1 h) 0 0 77 [(0, zx_rV (zx_BK B) 16 0), (1, zx_rV (zx_BK B) 54 x1.val)] [.int (zx_b s1), zx_rV (zx_BK B) 54 s0.val] h := by
  unfold zs_Planner_planMethod_J77
  refine zx_putI E zd_Method_makesOfNull zp_Method_makesOfNull zg_54 s0.isLt (zx_nb _) (zx_fb _) zw_173 dd_Planner_planMethod_77 ?_
  refine zx_letH (fun h1 => ?_)
  refine zx_aload_n E 0 dd_Planner_planMethod_80 rfl rfl ?_
  refine zx_getR E 1 0 zd_Planner_types zg_16 Nat.zero_lt_one (zr_Planner_types _) zw_273 dd_Planner_planMethod_81 ?_
  refine zx_aload_n E 1 dd_Planner_planMethod_84 rfl rfl ?_
  refine zx_getI E zd_Method_to zg_54 x1.isLt zw_156 dd_Planner_planMethod_85 ?_
  refine zx_callV_z (T := zx_TTypes) E [.int (h1.1 54 x1.val 1)] (fun rZ eZ => zt_Types_isBean _ _ (h1.1 54 x1.val 1) h1 _ eZ) zg_1 Nat.zero_lt_one rfl zc_Planner_88 ⟨by decide, by decide⟩ (Nat.zero_le _) (Nat.zero_le _) rfl rfl (Nat.le_of_ble_eq_true rfl) dd_Planner_planMethod_88 (fun r2 => ?_)
  refine zx_istore_n E (lv1 := [(3, .int (zx_b r2)), (0, zx_rV (zx_BK B) 16 0), (1, zx_rV (zx_BK B) 54 x1.val)]) dd_Planner_planMethod_91 rfl (by decide) rfl ?_
  refine zx_aload_n E 1 dd_Planner_planMethod_92 rfl rfl ?_
  refine zx_getR E 1 0 zd_Planner_types zg_16 Nat.zero_lt_one (zr_Planner_types _) zw_273 dd_Planner_planMethod_93 ?_
  refine zx_iload_n E 0 dd_Planner_planMethod_96 rfl rfl ?_
  refine zx_ifb_eq E (x := r2) 107 dd_Planner_planMethod_97 rfl ?_ ?_
  rotate_left
  · refine zx_aload_n E 2 dd_Planner_planMethod_107 rfl rfl ?_
    refine zx_getI E zd_Method_from zg_54 x1.isLt zw_152 dd_Planner_planMethod_108 ?_
    refine zx_sub [1, 2, 0] rfl ?_
    exact zj_Planner_planMethod_111 E x1 r2 (h1.1 54 x1.val 0) h1
  refine zx_aload_n E 2 dd_Planner_planMethod_100 rfl rfl ?_
  refine zx_getI E zd_Method_to zg_54 x1.isLt zw_156 dd_Planner_planMethod_101 ?_
  refine zx_goto E 111 dd_Planner_planMethod_104 rfl ?_
  refine zx_sub [1, 2, 0] rfl ?_
  exact zj_Planner_planMethod_111 E x1 r2 (h1.1 54 x1.val 1) h1
set_option maxHeartbeats 4000000 in
set_option maxRecDepth 20000 in
theorem zj_Planner_planMethod_76 {B : zx_B} (E : zx_E B zm_Planner_planMethod)  (x1 : Fin 16) (s0 : Fin 16) (h : zx_H) : zx_X B zm_Planner_planMethod (zx_QM B (fun r => ((none : Option Value), r))) (zs_Planner_planMethod_J76  x1 s0 h) 0 0 76 [(0, zx_rV (zx_BK B) 16 0), (1, zx_rV (zx_BK B) 54 x1.val)] [zx_rV (zx_BK B) 54 s0.val] h := by
  unfold zs_Planner_planMethod_J76
  refine zx_iconst E (0 : Int32) dd_Planner_planMethod_76 (by decide) ?_
  exact zj_Planner_planMethod_77 E x1 s0 false h
set_option maxHeartbeats 4000000 in
set_option maxRecDepth 20000 in
theorem zj_Planner_planMethod_48 {B : zx_B} (E : zx_E B zm_Planner_planMethod)  (x1 : Fin 16) (h : zx_H) : zx_X B zm_Planner_planMethod (zx_QM B (fun r => ((none : Option Value), r))) (zs_Planner_planMethod_J48  x1 h) 0 0 48 [(0, zx_rV (zx_BK B) 16 0), (1, zx_rV (zx_BK B) 54 x1.val)] [] h := by
  unfold zs_Planner_planMethod_J48
  refine zx_aload_n E 1 dd_Planner_planMethod_48 rfl rfl ?_
  refine zx_bipush E (8 : Int32) dd_Planner_planMethod_49 (by decide) ?_
  refine zx_callV_i (T := zx_TMethod) E [.int (8 : Int32)] (fun rZ eZ => zt_Method_latest _ _ x1 (8 : Int32) h _ eZ) zg_54 x1.isLt rfl zc_Planner_73 ⟨by decide, by decide⟩ (Nat.zero_le _) (Nat.zero_le _) rfl rfl (Nat.le_of_ble_eq_true rfl) dd_Planner_planMethod_51 (fun r1 => ?_)
  refine zx_istore_n E (lv1 := [(2, .int r1), (0, zx_rV (zx_BK B) 16 0), (1, zx_rV (zx_BK B) 54 x1.val)]) dd_Planner_planMethod_54 rfl (by decide) rfl ?_
  refine zx_aload_n E 2 dd_Planner_planMethod_55 rfl rfl ?_
  refine zx_iload_n E 0 dd_Planner_planMethod_56 rfl rfl ?_
  refine zx_iconst E (-1 : Int32) dd_Planner_planMethod_57 (by decide) ?_
  refine zx_icmp_eq E 76 dd_Planner_planMethod_58 rfl ?_ ?_
  rotate_left
  · refine zx_sub [1, 2] rfl ?_
    exact zj_Planner_planMethod_76 E x1 x1 h
  refine zx_aload_n E 2 dd_Planner_planMethod_61 rfl rfl ?_
  refine zx_getR E 57 x1.val zd_Method_whats zg_54 x1.isLt (zr_Method_whats _) zw_170 dd_Planner_planMethod_62 ?_
  refine zx_iload_n E 0 dd_Planner_planMethod_65 rfl rfl ?_
  refine zx_lald E zg_57 x1.isLt dd_Planner_planMethod_66 ?_
  refine zx_lconst E (1 : Int64) dd_Planner_planMethod_67 rfl ?_
  refine zx_lcmp_ne E 76 dd_Planner_planMethod_68 dd_Planner_planMethod_69 rfl ?_ ?_
  rotate_left
  · refine zx_sub [1, 2] rfl ?_
    exact zj_Planner_planMethod_76 E x1 x1 h
  refine zx_iconst E (1 : Int32) dd_Planner_planMethod_72 (by decide) ?_
  refine zx_goto E 77 dd_Planner_planMethod_73 rfl ?_
  refine zx_sub [1, 2] rfl ?_
  exact zj_Planner_planMethod_77 E x1 x1 true h
set_option maxHeartbeats 4000000 in
set_option maxRecDepth 20000 in
theorem zb_Planner_planMethod_16 {B : zx_B} (E : zx_E B zm_Planner_planMethod)  (k16 : (Fin 16 → Int32 → zx_H → Option zx_H)) (hk16 : ∀ (x1 : Fin 16) (x2 : Int32) (h : zx_H), zx_X B zm_Planner_planMethod (zx_QM B (fun r => ((none : Option Value), r))) (k16 x1 x2 h) 0 0 16 [(0, zx_rV (zx_BK B) 16 0), (1, zx_rV (zx_BK B) 54 x1.val), (2, .int x2)] [] h) (x1 : Fin 16) (x2 : Int32) (h : zx_H) : zx_X B zm_Planner_planMethod (zx_QM B (fun r => ((none : Option Value), r))) (zs_Planner_planMethod_L16_body  k16 x1 x2 h) 0 0 16 [(0, zx_rV (zx_BK B) 16 0), (1, zx_rV (zx_BK B) 54 x1.val), (2, .int x2)] [] h := by
  unfold zs_Planner_planMethod_L16_body
  refine zx_iload_n E 2 dd_Planner_planMethod_16 rfl rfl ?_
  refine zx_aload_n E 1 dd_Planner_planMethod_17 rfl rfl ?_
  refine zx_getI E zd_Method_ruleCount zg_54 x1.isLt zw_161 dd_Planner_planMethod_18 ?_
  refine zx_icmp_ge E 48 dd_Planner_planMethod_21 rfl ?_ ?_
  rotate_left
  · refine zx_sub [0, 1] rfl ?_
    exact zj_Planner_planMethod_48 E x1 h
  refine zx_aload_n E 0 dd_Planner_planMethod_24 rfl rfl ?_
  refine zx_getI E zd_Planner_fault zg_16 Nat.zero_lt_one zw_277 dd_Planner_planMethod_25 ?_
  refine zx_if_ne E 48 dd_Planner_planMethod_28 rfl ?_ ?_
  rotate_left
  · refine zx_sub [0, 1] rfl ?_
    exact zj_Planner_planMethod_48 E x1 h
  refine zx_aload_n E 0 dd_Planner_planMethod_31 rfl rfl ?_
  refine zx_aload_n E 0 dd_Planner_planMethod_32 rfl rfl ?_
  refine zx_aload_n E 1 dd_Planner_planMethod_33 rfl rfl ?_
  refine zx_iload_n E 2 dd_Planner_planMethod_34 rfl rfl ?_
  refine zx_callV_iw (T := zx_TPlanner) E [zx_rV (zx_BK B) 54 x1.val, .int x2] (fun rZ eZ => zt_Planner_ruleFault _ _ x1 x2 h _ eZ) zg_16 Nat.zero_lt_one rfl zc_Planner_65 ⟨by decide, by decide⟩ (Nat.zero_le _) (Nat.zero_le _) rfl rfl (Nat.le_of_ble_eq_true rfl) dd_Planner_planMethod_35 (fun r1 => ?_)
  refine zx_iload_n E 2 dd_Planner_planMethod_38 rfl rfl ?_
  refine zx_callV_v (T := zx_TPlanner) E [.int r1.1, .int x2] (fun rZ eZ => zt_Planner_note _ _ r1.1 x2 r1.2 _ eZ) zg_16 Nat.zero_lt_one rfl zc_Planner_69 ⟨by decide, by decide⟩ (Nat.zero_le _) (Nat.zero_le _) rfl rfl (Nat.le_of_ble_eq_true rfl) dd_Planner_planMethod_39 (fun r2 => ?_)
  refine zx_iinc E 2 (x2 + (1 : Int32)) (lv1 := [(2, .int (x2 + (1 : Int32))), (0, zx_rV (zx_BK B) 16 0), (1, zx_rV (zx_BK B) 54 x1.val)]) dd_Planner_planMethod_42 rfl rfl (by decide) rfl ?_
  refine zx_goto E 16 dd_Planner_planMethod_45 rfl ?_
  refine zx_sub [1, 2, 0] rfl ?_
  exact hk16 x1 (x2 + (1 : Int32)) r2
theorem zj_Planner_planMethod_16 {B : zx_B} (E : zx_E B zm_Planner_planMethod)  : ∀ (x1 : Fin 16) (x2 : Int32) (h : zx_H), zx_X B zm_Planner_planMethod (zx_QM B (fun r => ((none : Option Value), r))) (zs_Planner_planMethod_L16  x1 x2 h) 0 0 16 [(0, zx_rV (zx_BK B) 16 0), (1, zx_rV (zx_BK B) 54 x1.val), (2, .int x2)] [] h := by
  unfold zs_Planner_planMethod_L16
  generalize zx_fuel = n
  induction n with
  | zero => intros; exact zx_non
  | succ n ih => intro x1 x2 h; exact zb_Planner_planMethod_16 E  _ ih x1 x2 h
set_option maxHeartbeats 4000000 in
set_option maxRecDepth 20000 in
theorem zt_Planner_planMethod (l : Launch) (K : zx_K) (a1 : Fin 16) (h : zx_H) (r : zx_H) (hf : zs_Planner_planMethod a1 h = some r) : zx_MR l zm_Planner_planMethod zy_Planner_planMethod K [zx_rV K 16 0, zx_rV K 54 a1.val] h none r := by
  refine zx_ofM (M := zm_Planner_planMethod) (y := zy_Planner_planMethod) (r := r) (as := [zx_rV K 16 0, zx_rV K 54 a1.val]) (ρ := (fun r => ((none : Option Value), r))) (by decide) rfl hf (Nat.le_of_ble_eq_true rfl) ?_
  intro B hl hK E
  subst hK
  subst hl
  show zx_X B zm_Planner_planMethod _ _ 0 0 0 [(0, zx_rV (zx_BK B) 16 0), (1, zx_rV (zx_BK B) 54 a1.val)] [] h
  unfold zs_Planner_planMethod
  refine zx_aload_n E 0 dd_Planner_planMethod_0 rfl rfl ?_
  refine zx_aload_n E 1 dd_Planner_planMethod_1 rfl rfl ?_
  refine zx_callV_zw (T := zx_TPlanner) E [zx_rV (zx_BK B) 54 a1.val] (fun rZ eZ => zt_Planner_planInverse _ _ a1 h _ eZ) zg_16 Nat.zero_lt_one rfl zc_Planner_56 ⟨by decide, by decide⟩ (Nat.zero_le _) (Nat.zero_le _) rfl rfl (Nat.le_of_ble_eq_true rfl) dd_Planner_planMethod_2 (fun r1 => ?_)
  refine zx_ifb_ne E (x := r1.1) 14 dd_Planner_planMethod_5 rfl ?_ ?_
  rotate_left
  · refine zx_iconst E (0 : Int32) dd_Planner_planMethod_14 (by decide) ?_
    refine zx_istore_n E (lv1 := [(2, .int (0 : Int32)), (0, zx_rV (zx_BK B) 16 0), (1, zx_rV (zx_BK B) 54 a1.val)]) dd_Planner_planMethod_15 rfl (by decide) rfl ?_
    refine zx_sub [1, 2, 0] rfl ?_
    exact zj_Planner_planMethod_16 E a1 (0 : Int32) r1.2
  refine zx_aload_n E 0 dd_Planner_planMethod_8 rfl rfl ?_
  refine zx_iconst E (1 : Int32) dd_Planner_planMethod_9 (by decide) ?_
  refine zx_putI E zd_Planner_fault zp_Planner_fault zg_16 Nat.zero_lt_one rfl rfl zw_277 dd_Planner_planMethod_10 ?_
  refine zx_letH (fun h2 => ?_)
  exact zx_vret E rfl rfl dd_Planner_planMethod_13
set_option maxHeartbeats 4000000 in
set_option maxRecDepth 20000 in
theorem zj_Planner_planAll_66 {B : zx_B} (E : zx_E B zm_Planner_planAll)   (h : zx_H) : zx_X B zm_Planner_planAll (zx_QM B (fun r => ((none : Option Value), r))) (zs_Planner_planAll_J66  h) 0 0 66 [(0, zx_rV (zx_BK B) 16 0)] [] h := by
  unfold zs_Planner_planAll_J66
  refine zx_aload_n E 0 dd_Planner_planAll_66 rfl rfl ?_
  refine zx_getI E zd_Planner_fault zg_16 Nat.zero_lt_one zw_277 dd_Planner_planAll_67 ?_
  refine zx_if_ne E 78 dd_Planner_planAll_70 rfl ?_ ?_
  rotate_left
  · exact zx_vret E rfl rfl dd_Planner_planAll_78
  refine zx_aload_n E 0 dd_Planner_planAll_73 rfl rfl ?_
  refine zx_iconst E (-1 : Int32) dd_Planner_planAll_74 (by decide) ?_
  refine zx_putI E zd_Planner_faultMethod zp_Planner_faultMethod zg_16 Nat.zero_lt_one rfl rfl zw_279 dd_Planner_planAll_75 ?_
  refine zx_letH (fun h1 => ?_)
  exact zx_vret E rfl rfl dd_Planner_planAll_78
set_option maxHeartbeats 4000000 in
set_option maxRecDepth 20000 in
theorem zb_Planner_planAll_24 {B : zx_B} (E : zx_E B zm_Planner_planAll)  (k24 : (Int32 → zx_H → Option zx_H)) (hk24 : ∀ (x1 : Int32) (h : zx_H), zx_X B zm_Planner_planAll (zx_QM B (fun r => ((none : Option Value), r))) (k24 x1 h) 0 0 24 [(0, zx_rV (zx_BK B) 16 0), (1, .int x1)] [] h) (x1 : Int32) (h : zx_H) : zx_X B zm_Planner_planAll (zx_QM B (fun r => ((none : Option Value), r))) (zs_Planner_planAll_L24_body  k24 x1 h) 0 0 24 [(0, zx_rV (zx_BK B) 16 0), (1, .int x1)] [] h := by
  unfold zs_Planner_planAll_L24_body
  refine zx_iload_n E 1 dd_Planner_planAll_24 rfl rfl ?_
  refine zx_aload_n E 0 dd_Planner_planAll_25 rfl rfl ?_
  refine zx_getR E 11 0 zd_Planner_model zg_16 Nat.zero_lt_one (zr_Planner_model _) zw_274 dd_Planner_planAll_26 ?_
  refine zx_getI E zd_Model_methodCount zg_11 Nat.zero_lt_one zw_215 dd_Planner_planAll_29 ?_
  refine zx_icmp_ge E 66 dd_Planner_planAll_32 rfl ?_ ?_
  rotate_left
  · refine zx_sub [0] rfl ?_
    exact zj_Planner_planAll_66 E h
  refine zx_aload_n E 0 dd_Planner_planAll_35 rfl rfl ?_
  refine zx_getI E zd_Planner_fault zg_16 Nat.zero_lt_one zw_277 dd_Planner_planAll_36 ?_
  refine zx_if_ne E 66 dd_Planner_planAll_39 rfl ?_ ?_
  rotate_left
  · refine zx_sub [0] rfl ?_
    exact zj_Planner_planAll_66 E h
  refine zx_aload_n E 0 dd_Planner_planAll_42 rfl rfl ?_
  refine zx_iload_n E 1 dd_Planner_planAll_43 rfl rfl ?_
  refine zx_putI E zd_Planner_faultMethod zp_Planner_faultMethod zg_16 Nat.zero_lt_one rfl rfl zw_279 dd_Planner_planAll_44 ?_
  refine zx_letH (fun h1 => ?_)
  refine zx_aload_n E 0 dd_Planner_planAll_47 rfl rfl ?_
  refine zx_aload_n E 0 dd_Planner_planAll_48 rfl rfl ?_
  refine zx_getR E 11 0 zd_Planner_model zg_16 Nat.zero_lt_one (zr_Planner_model _) zw_274 dd_Planner_planAll_49 ?_
  refine zx_getR E 13 0 zd_Model_methods zg_11 Nat.zero_lt_one (zr_Model_methods _) zw_207 dd_Planner_planAll_52 ?_
  refine zx_iload_n E 1 dd_Planner_planAll_55 rfl rfl ?_
  refine zx_aaldM E dd_Planner_planAll_56 (fun j2 => ?_)
  refine zx_callV_v (T := zx_TPlanner) E [zx_rV (zx_BK B) 54 j2.val] (fun rZ eZ => zt_Planner_planMethod _ _ j2 h1 _ eZ) zg_16 Nat.zero_lt_one rfl zc_Planner_52 ⟨by decide, by decide⟩ (Nat.zero_le _) (Nat.zero_le _) rfl rfl (Nat.le_of_ble_eq_true rfl) dd_Planner_planAll_57 (fun r3 => ?_)
  refine zx_iinc E 1 (x1 + (1 : Int32)) (lv1 := [(1, .int (x1 + (1 : Int32))), (0, zx_rV (zx_BK B) 16 0)]) dd_Planner_planAll_60 rfl rfl (by decide) rfl ?_
  refine zx_goto E 24 dd_Planner_planAll_63 rfl ?_
  refine zx_sub [1, 0] rfl ?_
  exact hk24 (x1 + (1 : Int32)) r3
theorem zj_Planner_planAll_24 {B : zx_B} (E : zx_E B zm_Planner_planAll)  : ∀ (x1 : Int32) (h : zx_H), zx_X B zm_Planner_planAll (zx_QM B (fun r => ((none : Option Value), r))) (zs_Planner_planAll_L24  x1 h) 0 0 24 [(0, zx_rV (zx_BK B) 16 0), (1, .int x1)] [] h := by
  unfold zs_Planner_planAll_L24
  generalize zx_fuel = n
  induction n with
  | zero => intros; exact zx_non
  | succ n ih => intro x1 h; exact zb_Planner_planAll_24 E  _ ih x1 h
set_option maxHeartbeats 4000000 in
set_option maxRecDepth 20000 in
theorem zt_Planner_planAll (l : Launch) (K : zx_K)  (h : zx_H) (r : zx_H) (hf : zs_Planner_planAll  h = some r) : zx_MR l zm_Planner_planAll zy_Planner_planAll K [zx_rV K 16 0] h none r := by
  refine zx_ofM (M := zm_Planner_planAll) (y := zy_Planner_planAll) (r := r) (as := [zx_rV K 16 0]) (ρ := (fun r => ((none : Option Value), r))) (by decide) rfl hf (Nat.le_of_ble_eq_true rfl) ?_
  intro B hl hK E
  subst hK
  subst hl
  show zx_X B zm_Planner_planAll _ _ 0 0 0 [(0, zx_rV (zx_BK B) 16 0)] [] h
  unfold zs_Planner_planAll
  refine zx_aload_n E 0 dd_Planner_planAll_0 rfl rfl ?_
  refine zx_getR E 11 0 zd_Planner_model zg_16 Nat.zero_lt_one (zr_Planner_model _) zw_274 dd_Planner_planAll_1 ?_
  refine zx_callV_v (T := zx_TModel) E [] (fun rZ eZ => zt_Model_nameFunctions _ _ h _ eZ) zg_11 Nat.zero_lt_one rfl zc_Planner_37 ⟨by decide, by decide⟩ (Nat.zero_le _) (Nat.zero_le _) rfl rfl (Nat.le_of_ble_eq_true rfl) dd_Planner_planAll_4 (fun r1 => ?_)
  refine zx_aload_n E 0 dd_Planner_planAll_7 rfl rfl ?_
  refine zx_iconst E (0 : Int32) dd_Planner_planAll_8 (by decide) ?_
  refine zx_putI E zd_Planner_fault zp_Planner_fault zg_16 Nat.zero_lt_one rfl rfl zw_277 dd_Planner_planAll_9 ?_
  refine zx_letH (fun h2 => ?_)
  refine zx_aload_n E 0 dd_Planner_planAll_12 rfl rfl ?_
  refine zx_iconst E (-1 : Int32) dd_Planner_planAll_13 (by decide) ?_
  refine zx_putI E zd_Planner_faultMethod zp_Planner_faultMethod zg_16 Nat.zero_lt_one rfl rfl zw_279 dd_Planner_planAll_14 ?_
  refine zx_letH (fun h3 => ?_)
  refine zx_aload_n E 0 dd_Planner_planAll_17 rfl rfl ?_
  refine zx_iconst E (-1 : Int32) dd_Planner_planAll_18 (by decide) ?_
  refine zx_putI E zd_Planner_faultPlace zp_Planner_faultPlace zg_16 Nat.zero_lt_one rfl rfl zw_281 dd_Planner_planAll_19 ?_
  refine zx_letH (fun h4 => ?_)
  refine zx_iconst E (0 : Int32) dd_Planner_planAll_22 (by decide) ?_
  refine zx_istore_n E (lv1 := [(1, .int (0 : Int32)), (0, zx_rV (zx_BK B) 16 0)]) dd_Planner_planAll_23 rfl (by decide) rfl ?_
  refine zx_sub [1, 0] rfl ?_
  exact zj_Planner_planAll_24 E (0 : Int32) h4
set_option maxHeartbeats 4000000 in
set_option maxRecDepth 20000 in
theorem zt_Store_isFull (l : Launch) (K : zx_K)  (h : zx_H) (r : Bool) (hf : zs_Store_isFull  h = some r) : zx_MR l zm_Store_isFull zy_Store_isFull K [zx_rV K 7 0] h (some (.int (zx_b r))) h := by
  refine zx_ofM (M := zm_Store_isFull) (y := zy_Store_isFull) (r := r) (as := [zx_rV K 7 0]) (ρ := (fun r => ((some (Value.int (zx_b r)) : Option Value), h))) (by decide) rfl hf (Nat.le_of_ble_eq_true rfl) ?_
  intro B hl hK E
  subst hK
  subst hl
  show zx_X B zm_Store_isFull _ _ 0 0 0 [(0, zx_rV (zx_BK B) 7 0)] [] h
  unfold zs_Store_isFull
  refine zx_aload_n E 0 dd_Store_isFull_0 rfl rfl ?_
  refine zx_getI E zd_Store_size zg_7 Nat.zero_lt_one zw_237 dd_Store_isFull_1 ?_
  refine zx_sipush E (400 : Int32) dd_Store_isFull_4 (by decide) ?_
  refine zx_icmp_lt E 14 dd_Store_isFull_7 rfl ?_ ?_
  rotate_left
  · refine zx_iconst E (0 : Int32) dd_Store_isFull_14 (by decide) ?_
    exact zx_zret E false rfl rfl rfl dd_Store_isFull_15
  refine zx_iconst E (1 : Int32) dd_Store_isFull_10 (by decide) ?_
  refine zx_goto E 15 dd_Store_isFull_11 rfl ?_
  exact zx_zret E true rfl rfl rfl dd_Store_isFull_15
set_option maxHeartbeats 4000000 in
set_option maxRecDepth 20000 in
theorem zt_Store_forget (l : Launch) (K : zx_K) (a1 : Int32) (h : zx_H) (r : zx_H) (hf : zs_Store_forget a1 h = some r) : zx_MR l zm_Store_forget zy_Store_forget K [zx_rV K 7 0, .int a1] h none r := by
  refine zx_ofM (M := zm_Store_forget) (y := zy_Store_forget) (r := r) (as := [zx_rV K 7 0, .int a1]) (ρ := (fun r => ((none : Option Value), r))) (by decide) rfl hf (Nat.le_of_ble_eq_true rfl) ?_
  intro B hl hK E
  subst hK
  subst hl
  show zx_X B zm_Store_forget _ _ 0 0 0 [(0, zx_rV (zx_BK B) 7 0), (1, .int a1)] [] h
  unfold zs_Store_forget
  refine zx_aload_n E 0 dd_Store_forget_0 rfl rfl ?_
  refine zx_iload_n E 1 dd_Store_forget_1 rfl rfl ?_
  refine zx_putI E zd_Store_size zp_Store_size zg_7 Nat.zero_lt_one rfl rfl zw_237 dd_Store_forget_2 ?_
  refine zx_letH (fun h1 => ?_)
  exact zx_vret E rfl rfl dd_Store_forget_5
set_option maxHeartbeats 4000000 in
set_option maxRecDepth 20000 in
theorem zb_Store_appendBytes_3 {B : zx_B} (E : zx_E B zm_Store_appendBytes)  (k3 : (Int32 → Int64 → Int32 → zx_H → Option zx_H)) (hk3 : ∀ (x1 : Int32) (x2 : Int64) (x4 : Int32) (h : zx_H), zx_X B zm_Store_appendBytes (zx_QM B (fun r => ((none : Option Value), r))) (k3 x1 x2 x4 h) 0 0 3 [(0, zx_rV (zx_BK B) 7 0), (1, .int x1), (2, .long x2), (4, .int x4)] [] h) (x1 : Int32) (x2 : Int64) (x4 : Int32) (h : zx_H) : zx_X B zm_Store_appendBytes (zx_QM B (fun r => ((none : Option Value), r))) (zs_Store_appendBytes_L3_body  k3 x1 x2 x4 h) 0 0 3 [(0, zx_rV (zx_BK B) 7 0), (1, .int x1), (2, .long x2), (4, .int x4)] [] h := by
  unfold zs_Store_appendBytes_L3_body
  refine zx_iload E 3 dd_Store_appendBytes_3 rfl ?_
  refine zx_bipush E (8 : Int32) dd_Store_appendBytes_5 (by decide) ?_
  refine zx_icmp_ge E 45 dd_Store_appendBytes_7 rfl ?_ ?_
  rotate_left
  · exact zx_vret E rfl rfl dd_Store_appendBytes_45
  refine zx_lload_n E 2 dd_Store_appendBytes_10 rfl rfl ?_
  refine zx_bipush E (8 : Int32) dd_Store_appendBytes_11 (by decide) ?_
  refine zx_iload E 3 dd_Store_appendBytes_13 rfl ?_
  refine zx_imul E dd_Store_appendBytes_15 ?_
  refine zx_lushr E dd_Store_appendBytes_16 ?_
  refine zx_ldc2 E (255 : Int64) zw_824 dd_Store_appendBytes_17 ?_
  refine zx_land E dd_Store_appendBytes_20 ?_
  refine zx_letl (fun y1 => ?_)
  refine zx_lstore E (lv1 := [(5, .long y1), (0, zx_rV (zx_BK B) 7 0), (1, .int x1), (2, .long x2), (4, .int x4)]) dd_Store_appendBytes_21 (by decide) rfl ?_
  refine zx_lload E 0 dd_Store_appendBytes_23 rfl ?_
  refine zx_lconst E (0 : Int64) dd_Store_appendBytes_25 rfl ?_
  refine zx_lcmp_ne E 31 dd_Store_appendBytes_26 dd_Store_appendBytes_27 rfl ?_ ?_
  · exact zx_vret E rfl rfl dd_Store_appendBytes_30
  refine zx_aload_n E 1 dd_Store_appendBytes_31 rfl rfl ?_
  refine zx_iload_n E 2 dd_Store_appendBytes_32 rfl rfl ?_
  refine zx_lload E 0 dd_Store_appendBytes_33 rfl ?_
  refine zx_callV_zw (T := zx_TStore) E [.int x1, .long y1] (fun rZ eZ => zt_Store_append _ _ x1 y1 h _ eZ) zg_7 Nat.zero_lt_one rfl zc_Store_32 ⟨by decide, by decide⟩ (Nat.zero_le _) (Nat.zero_le _) rfl rfl (Nat.le_of_ble_eq_true rfl) dd_Store_appendBytes_35 (fun r2 => ?_)
  refine zx_pop E dd_Store_appendBytes_38 rfl ?_
  refine zx_iinc E 4 (x4 + (1 : Int32)) (lv1 := [(4, .int (x4 + (1 : Int32))), (5, .long y1), (0, zx_rV (zx_BK B) 7 0), (1, .int x1), (2, .long x2)]) dd_Store_appendBytes_39 rfl rfl (by decide) rfl ?_
  refine zx_goto E 3 dd_Store_appendBytes_42 rfl ?_
  refine zx_sub [2, 3, 4, 0] rfl ?_
  exact hk3 x1 x2 (x4 + (1 : Int32)) r2.2
theorem zj_Store_appendBytes_3 {B : zx_B} (E : zx_E B zm_Store_appendBytes)  : ∀ (x1 : Int32) (x2 : Int64) (x4 : Int32) (h : zx_H), zx_X B zm_Store_appendBytes (zx_QM B (fun r => ((none : Option Value), r))) (zs_Store_appendBytes_L3  x1 x2 x4 h) 0 0 3 [(0, zx_rV (zx_BK B) 7 0), (1, .int x1), (2, .long x2), (4, .int x4)] [] h := by
  unfold zs_Store_appendBytes_L3
  generalize zx_fuel = n
  induction n with
  | zero => intros; exact zx_non
  | succ n ih => intro x1 x2 x4 h; exact zb_Store_appendBytes_3 E  _ ih x1 x2 x4 h
set_option maxHeartbeats 4000000 in
set_option maxRecDepth 20000 in
theorem zt_Store_appendBytes (l : Launch) (K : zx_K) (a1 : Int32) (a2 : Int64) (h : zx_H) (r : zx_H) (hf : zs_Store_appendBytes a1 a2 h = some r) : zx_MR l zm_Store_appendBytes zy_Store_appendBytes K [zx_rV K 7 0, .int a1, .long a2] h none r := by
  refine zx_ofM (M := zm_Store_appendBytes) (y := zy_Store_appendBytes) (r := r) (as := [zx_rV K 7 0, .int a1, .long a2]) (ρ := (fun r => ((none : Option Value), r))) (by decide) rfl hf (Nat.le_of_ble_eq_true rfl) ?_
  intro B hl hK E
  subst hK
  subst hl
  show zx_X B zm_Store_appendBytes _ _ 0 0 0 [(0, zx_rV (zx_BK B) 7 0), (1, .int a1), (2, .long a2)] [] h
  unfold zs_Store_appendBytes
  refine zx_iconst E (0 : Int32) dd_Store_appendBytes_0 (by decide) ?_
  refine zx_istore E (lv1 := [(4, .int (0 : Int32)), (0, zx_rV (zx_BK B) 7 0), (1, .int a1), (2, .long a2)]) dd_Store_appendBytes_1 (by decide) rfl ?_
  refine zx_sub [1, 2, 3, 0] rfl ?_
  exact zj_Store_appendBytes_3 E a1 a2 (0 : Int32) h
set_option maxHeartbeats 4000000 in
set_option maxRecDepth 20000 in
theorem zb_Types_areNames_26 {B : zx_B} (E : zx_E B zm_Types_areNames) (h : zx_H) (k2 : (Int64 → Int32 → Int32 → Option Bool)) (hk2 : ∀ (x0 : Int64) (x2 : Int32) (x3 : Int32), zx_X B zm_Types_areNames (zx_QM B (fun r => ((some (Value.int (zx_b r)) : Option Value), h))) (k2 x0 x2 x3) 0 0 2 [(0, .long x0), (2, .int x2), (3, .int x3)] [] h) (k26 : (Int64 → Int32 → Int32 → Int32 → Int32 → Option Bool)) (hk26 : ∀ (x0 : Int64) (x2 : Int32) (x3 : Int32) (x4 : Int32) (x5 : Int32), zx_X B zm_Types_areNames (zx_QM B (fun r => ((some (Value.int (zx_b r)) : Option Value), h))) (k26 x0 x2 x3 x4 x5) 0 0 26 [(0, .long x0), (2, .int x2), (3, .int x3), (4, .int x4), (5, .int x5)] [] h) (x0 : Int64) (x2 : Int32) (x3 : Int32) (x4 : Int32) (x5 : Int32) : zx_X B zm_Types_areNames (zx_QM B (fun r => ((some (Value.int (zx_b r)) : Option Value), h))) (zs_Types_areNames_L26_body h k2 k26 x0 x2 x3 x4 x5) 0 0 26 [(0, .long x0), (2, .int x2), (3, .int x3), (4, .int x4), (5, .int x5)] [] h := by
  unfold zs_Types_areNames_L26_body
  refine zx_iload E 4 dd_Types_areNames_26 rfl ?_
  refine zx_iload_n E 2 dd_Types_areNames_28 rfl rfl ?_
  refine zx_icmp_ge E 51 dd_Types_areNames_29 rfl ?_ ?_
  rotate_left
  · refine zx_iinc E 2 (x3 + (1 : Int32)) (lv1 := [(3, .int (x3 + (1 : Int32))), (0, .long x0), (2, .int x2), (4, .int x4), (5, .int x5)]) dd_Types_areNames_51 rfl rfl (by decide) rfl ?_
    refine zx_goto E 2 dd_Types_areNames_54 rfl ?_
    refine zx_sub [1, 2, 0] rfl ?_
    exact hk2 x0 x2 (x3 + (1 : Int32))
  refine zx_lload_n E 0 dd_Types_areNames_32 rfl rfl ?_
  refine zx_iload E 4 dd_Types_areNames_33 rfl ?_
  refine zx_callS_i E [.long x0, .int x5] (fun rZ eZ => zt_Types_nameIn _ _ x0 x5 h _ eZ) zc_Types_31 ⟨by decide, by decide⟩ (Nat.zero_le _) (Nat.zero_le _) rfl rfl (Nat.le_of_ble_eq_true rfl) dd_Types_areNames_35 (fun r1 => ?_)
  refine zx_iload E 3 dd_Types_areNames_38 rfl ?_
  refine zx_icmp_ne E 45 dd_Types_areNames_40 rfl ?_ ?_
  · refine zx_iconst E (0 : Int32) dd_Types_areNames_43 (by decide) ?_
    exact zx_zret E false rfl rfl rfl dd_Types_areNames_44
  refine zx_iinc E 4 (x5 + (1 : Int32)) (lv1 := [(5, .int (x5 + (1 : Int32))), (0, .long x0), (2, .int x2), (3, .int x3), (4, .int x4)]) dd_Types_areNames_45 rfl rfl (by decide) rfl ?_
  refine zx_goto E 26 dd_Types_areNames_48 rfl ?_
  refine zx_sub [1, 2, 3, 4, 0] rfl ?_
  exact hk26 x0 x2 x3 x4 (x5 + (1 : Int32))
theorem zj_Types_areNames_26 {B : zx_B} (E : zx_E B zm_Types_areNames) (h : zx_H) (k2 : (Int64 → Int32 → Int32 → Option Bool)) (hk2 : ∀ (x0 : Int64) (x2 : Int32) (x3 : Int32), zx_X B zm_Types_areNames (zx_QM B (fun r => ((some (Value.int (zx_b r)) : Option Value), h))) (k2 x0 x2 x3) 0 0 2 [(0, .long x0), (2, .int x2), (3, .int x3)] [] h) : ∀ (x0 : Int64) (x2 : Int32) (x3 : Int32) (x4 : Int32) (x5 : Int32), zx_X B zm_Types_areNames (zx_QM B (fun r => ((some (Value.int (zx_b r)) : Option Value), h))) (zs_Types_areNames_L26 h k2 x0 x2 x3 x4 x5) 0 0 26 [(0, .long x0), (2, .int x2), (3, .int x3), (4, .int x4), (5, .int x5)] [] h := by
  unfold zs_Types_areNames_L26
  generalize zx_fuel = n
  induction n with
  | zero => intros; exact zx_non
  | succ n ih => intro x0 x2 x3 x4 x5; exact zb_Types_areNames_26 E h k2 hk2 _ ih x0 x2 x3 x4 x5
set_option maxHeartbeats 4000000 in
set_option maxRecDepth 20000 in
theorem zb_Types_areNames_2 {B : zx_B} (E : zx_E B zm_Types_areNames) (h : zx_H)  (k2 : (Int64 → Int32 → Int32 → Option Bool)) (hk2 : ∀ (x0 : Int64) (x2 : Int32) (x3 : Int32), zx_X B zm_Types_areNames (zx_QM B (fun r => ((some (Value.int (zx_b r)) : Option Value), h))) (k2 x0 x2 x3) 0 0 2 [(0, .long x0), (2, .int x2), (3, .int x3)] [] h) (x0 : Int64) (x2 : Int32) (x3 : Int32) : zx_X B zm_Types_areNames (zx_QM B (fun r => ((some (Value.int (zx_b r)) : Option Value), h))) (zs_Types_areNames_L2_body h  k2 x0 x2 x3) 0 0 2 [(0, .long x0), (2, .int x2), (3, .int x3)] [] h := by
  unfold zs_Types_areNames_L2_body
  refine zx_iload_n E 2 dd_Types_areNames_2 rfl rfl ?_
  refine zx_iload_n E 1 dd_Types_areNames_3 rfl rfl ?_
  refine zx_icmp_ge E 57 dd_Types_areNames_4 rfl ?_ ?_
  rotate_left
  · refine zx_iconst E (1 : Int32) dd_Types_areNames_57 (by decide) ?_
    exact zx_zret E true rfl rfl rfl dd_Types_areNames_58
  refine zx_lload_n E 0 dd_Types_areNames_7 rfl rfl ?_
  refine zx_iload_n E 2 dd_Types_areNames_8 rfl rfl ?_
  refine zx_callS_i E [.long x0, .int x3] (fun rZ eZ => zt_Types_nameIn _ _ x0 x3 h _ eZ) zc_Types_31 ⟨by decide, by decide⟩ (Nat.zero_le _) (Nat.zero_le _) rfl rfl (Nat.le_of_ble_eq_true rfl) dd_Types_areNames_9 (fun r1 => ?_)
  refine zx_istore E (lv1 := [(4, .int r1), (0, .long x0), (2, .int x2), (3, .int x3)]) dd_Types_areNames_12 (by decide) rfl ?_
  refine zx_iload E 0 dd_Types_areNames_14 rfl ?_
  refine zx_bipush E (63 : Int32) dd_Types_areNames_16 (by decide) ?_
  refine zx_icmp_le E 23 dd_Types_areNames_18 rfl ?_ ?_
  · refine zx_iconst E (0 : Int32) dd_Types_areNames_21 (by decide) ?_
    exact zx_zret E false rfl rfl rfl dd_Types_areNames_22
  refine zx_iconst E (0 : Int32) dd_Types_areNames_23 (by decide) ?_
  refine zx_istore E (lv1 := [(5, .int (0 : Int32)), (4, .int r1), (0, .long x0), (2, .int x2), (3, .int x3)]) dd_Types_areNames_24 (by decide) rfl ?_
  refine zx_sub [2, 3, 4, 1, 0] rfl ?_
  exact zj_Types_areNames_26 E h k2 hk2 x0 x2 x3 r1 (0 : Int32)
theorem zj_Types_areNames_2 {B : zx_B} (E : zx_E B zm_Types_areNames) (h : zx_H)  : ∀ (x0 : Int64) (x2 : Int32) (x3 : Int32), zx_X B zm_Types_areNames (zx_QM B (fun r => ((some (Value.int (zx_b r)) : Option Value), h))) (zs_Types_areNames_L2 h  x0 x2 x3) 0 0 2 [(0, .long x0), (2, .int x2), (3, .int x3)] [] h := by
  unfold zs_Types_areNames_L2
  generalize zx_fuel = n
  induction n with
  | zero => intros; exact zx_non
  | succ n ih => intro x0 x2 x3; exact zb_Types_areNames_2 E h  _ ih x0 x2 x3
set_option maxHeartbeats 4000000 in
set_option maxRecDepth 20000 in
theorem zt_Types_areNames (l : Launch) (K : zx_K) (a0 : Int64) (a2 : Int32) (h : zx_H) (r : Bool) (hf : zs_Types_areNames a0 a2 h = some r) : zx_MR l zm_Types_areNames zy_Types_areNames K [.long a0, .int a2] h (some (.int (zx_b r))) h := by
  refine zx_ofM (M := zm_Types_areNames) (y := zy_Types_areNames) (r := r) (as := [.long a0, .int a2]) (ρ := (fun r => ((some (Value.int (zx_b r)) : Option Value), h))) (by decide) rfl hf (Nat.le_of_ble_eq_true rfl) ?_
  intro B hl hK E
  subst hK
  subst hl
  show zx_X B zm_Types_areNames _ _ 0 0 0 [(0, .long a0), (2, .int a2)] [] h
  unfold zs_Types_areNames
  refine zx_iconst E (0 : Int32) dd_Types_areNames_0 (by decide) ?_
  refine zx_istore_n E (lv1 := [(3, .int (0 : Int32)), (0, .long a0), (2, .int a2)]) dd_Types_areNames_1 rfl (by decide) rfl ?_
  refine zx_sub [1, 2, 0] rfl ?_
  exact zj_Types_areNames_2 E h a0 a2 (0 : Int32)
set_option maxHeartbeats 4000000 in
set_option maxRecDepth 20000 in
theorem zt_Types_isFull (l : Launch) (K : zx_K)  (h : zx_H) (r : Bool) (hf : zs_Types_isFull  h = some r) : zx_MR l zm_Types_isFull zy_Types_isFull K [zx_rV K 1 0] h (some (.int (zx_b r))) h := by
  refine zx_ofM (M := zm_Types_isFull) (y := zy_Types_isFull) (r := r) (as := [zx_rV K 1 0]) (ρ := (fun r => ((some (Value.int (zx_b r)) : Option Value), h))) (by decide) rfl hf (Nat.le_of_ble_eq_true rfl) ?_
  intro B hl hK E
  subst hK
  subst hl
  show zx_X B zm_Types_isFull _ _ 0 0 0 [(0, zx_rV (zx_BK B) 1 0)] [] h
  unfold zs_Types_isFull
  refine zx_aload_n E 0 dd_Types_isFull_0 rfl rfl ?_
  refine zx_getI E zd_Types_size zg_1 Nat.zero_lt_one zw_46 dd_Types_isFull_1 ?_
  refine zx_bipush E (40 : Int32) dd_Types_isFull_4 (by decide) ?_
  refine zx_icmp_lt E 13 dd_Types_isFull_6 rfl ?_ ?_
  rotate_left
  · refine zx_iconst E (0 : Int32) dd_Types_isFull_13 (by decide) ?_
    exact zx_zret E false rfl rfl rfl dd_Types_isFull_14
  refine zx_iconst E (1 : Int32) dd_Types_isFull_9 (by decide) ?_
  refine zx_goto E 14 dd_Types_isFull_10 rfl ?_
  exact zx_zret E true rfl rfl rfl dd_Types_isFull_14
set_option maxHeartbeats 4000000 in
set_option maxRecDepth 20000 in
theorem zt_Types_add (l : Launch) (K : zx_K) (a1 : Int32) (a2 : Int32) (h : zx_H) (r : (Int32 × zx_H)) (hf : zs_Types_add a1 a2 h = some r) : zx_MR l zm_Types_add zy_Types_add K [zx_rV K 1 0, .int a1, .int a2] h (some (.int r.1)) r.2 := by
  refine zx_ofM (M := zm_Types_add) (y := zy_Types_add) (r := r) (as := [zx_rV K 1 0, .int a1, .int a2]) (ρ := (fun r => ((some (Value.int r.1) : Option Value), r.2))) (by decide) rfl hf (Nat.le_of_ble_eq_true rfl) ?_
  intro B hl hK E
  subst hK
  subst hl
  show zx_X B zm_Types_add _ _ 0 0 0 [(0, zx_rV (zx_BK B) 1 0), (1, .int a1), (2, .int a2)] [] h
  unfold zs_Types_add
  refine zx_aload_n E 0 dd_Types_add_0 rfl rfl ?_
  refine zx_getI E zd_Types_size zg_1 Nat.zero_lt_one zw_46 dd_Types_add_1 ?_
  refine zx_bipush E (40 : Int32) dd_Types_add_4 (by decide) ?_
  refine zx_icmp_lt E 11 dd_Types_add_6 rfl ?_ ?_
  · refine zx_iconst E (-1 : Int32) dd_Types_add_9 (by decide) ?_
    exact zx_iret E rfl rfl dd_Types_add_10
  refine zx_aload_n E 0 dd_Types_add_11 rfl rfl ?_
  refine zx_getI E zd_Types_size zg_1 Nat.zero_lt_one zw_46 dd_Types_add_12 ?_
  refine zx_leti (fun y1 => ?_)
  refine zx_istore_n E (lv1 := [(3, .int y1), (0, zx_rV (zx_BK B) 1 0), (1, .int a1), (2, .int a2)]) dd_Types_add_15 rfl (by decide) rfl ?_
  refine zx_aload_n E 1 dd_Types_add_16 rfl rfl ?_
  refine zx_dup E dd_Types_add_17 rfl ?_
  refine zx_getI E zd_Types_size zg_1 Nat.zero_lt_one zw_46 dd_Types_add_18 ?_
  refine zx_iconst E (1 : Int32) dd_Types_add_21 (by decide) ?_
  refine zx_iadd E dd_Types_add_22 ?_
  refine zx_putI E zd_Types_size zp_Types_size zg_1 Nat.zero_lt_one rfl rfl zw_46 dd_Types_add_23 ?_
  refine zx_letH (fun h2 => ?_)
  refine zx_aload_n E 1 dd_Types_add_26 rfl rfl ?_
  refine zx_getR E 2 0 zd_Types_forms zg_1 Nat.zero_lt_one (zr_Types_forms _) zw_41 dd_Types_add_27 ?_
  refine zx_iload_n E 0 dd_Types_add_30 rfl rfl ?_
  refine zx_iload_n E 2 dd_Types_add_31 rfl rfl ?_
  refine zx_iast E zg_2 Nat.zero_lt_one dd_Types_add_32 ?_
  refine zx_letH (fun h3 => ?_)
  refine zx_aload_n E 1 dd_Types_add_33 rfl rfl ?_
  refine zx_getR E 3 0 zd_Types_elements zg_1 Nat.zero_lt_one (zr_Types_elements _) zw_42 dd_Types_add_34 ?_
  refine zx_iload_n E 0 dd_Types_add_37 rfl rfl ?_
  refine zx_iload_n E 3 dd_Types_add_38 rfl rfl ?_
  refine zx_iast E zg_3 Nat.zero_lt_one dd_Types_add_39 ?_
  refine zx_letH (fun h4 => ?_)
  refine zx_iload_n E 0 dd_Types_add_40 rfl rfl ?_
  exact zx_iret E rfl rfl dd_Types_add_41
set_option maxHeartbeats 4000000 in
set_option maxRecDepth 20000 in
theorem zt_Types_addMember (l : Launch) (K : zx_K) (a1 : Int32) (a2 : Int32) (a3 : Int32) (h : zx_H) (r : (Int32 × zx_H)) (hf : zs_Types_addMember a1 a2 a3 h = some r) : zx_MR l zm_Types_addMember zy_Types_addMember K [zx_rV K 1 0, .int a1, .int a2, .int a3] h (some (.int r.1)) r.2 := by
  refine zx_ofM (M := zm_Types_addMember) (y := zy_Types_addMember) (r := r) (as := [zx_rV K 1 0, .int a1, .int a2, .int a3]) (ρ := (fun r => ((some (Value.int r.1) : Option Value), r.2))) (by decide) rfl hf (Nat.le_of_ble_eq_true rfl) ?_
  intro B hl hK E
  subst hK
  subst hl
  show zx_X B zm_Types_addMember _ _ 0 0 0 [(0, zx_rV (zx_BK B) 1 0), (1, .int a1), (2, .int a2), (3, .int a3)] [] h
  unfold zs_Types_addMember
  refine zx_iload_n E 1 dd_Types_addMember_0 rfl rfl ?_
  refine zx_if_lt E 23 dd_Types_addMember_1 rfl ?_ ?_
  rotate_left
  · refine zx_iconst E (-1 : Int32) dd_Types_addMember_23 (by decide) ?_
    exact zx_iret E rfl rfl dd_Types_addMember_24
  refine zx_iload_n E 1 dd_Types_addMember_4 rfl rfl ?_
  refine zx_aload_n E 0 dd_Types_addMember_5 rfl rfl ?_
  refine zx_getI E zd_Types_size zg_1 Nat.zero_lt_one zw_46 dd_Types_addMember_6 ?_
  refine zx_icmp_ge E 23 dd_Types_addMember_9 rfl ?_ ?_
  rotate_left
  · refine zx_iconst E (-1 : Int32) dd_Types_addMember_23 (by decide) ?_
    exact zx_iret E rfl rfl dd_Types_addMember_24
  refine zx_aload_n E 0 dd_Types_addMember_12 rfl rfl ?_
  refine zx_getR E 4 0 zd_Types_memberCounts zg_1 Nat.zero_lt_one (zr_Types_memberCounts _) zw_43 dd_Types_addMember_13 ?_
  refine zx_iload_n E 1 dd_Types_addMember_16 rfl rfl ?_
  refine zx_iald E zg_4 Nat.zero_lt_one dd_Types_addMember_17 ?_
  refine zx_bipush E (8 : Int32) dd_Types_addMember_18 (by decide) ?_
  refine zx_icmp_lt E 25 dd_Types_addMember_20 rfl ?_ ?_
  · refine zx_iconst E (-1 : Int32) dd_Types_addMember_23 (by decide) ?_
    exact zx_iret E rfl rfl dd_Types_addMember_24
  refine zx_aload_n E 0 dd_Types_addMember_25 rfl rfl ?_
  refine zx_getR E 4 0 zd_Types_memberCounts zg_1 Nat.zero_lt_one (zr_Types_memberCounts _) zw_43 dd_Types_addMember_26 ?_
  refine zx_iload_n E 1 dd_Types_addMember_29 rfl rfl ?_
  refine zx_iald E zg_4 Nat.zero_lt_one dd_Types_addMember_30 ?_
  refine zx_leti (fun y1 => ?_)
  refine zx_istore E (lv1 := [(4, .int y1), (0, zx_rV (zx_BK B) 1 0), (1, .int a1), (2, .int a2), (3, .int a3)]) dd_Types_addMember_31 (by decide) rfl ?_
  refine zx_aload_n E 1 dd_Types_addMember_33 rfl rfl ?_
  refine zx_getR E 4 0 zd_Types_memberCounts zg_1 Nat.zero_lt_one (zr_Types_memberCounts _) zw_43 dd_Types_addMember_34 ?_
  refine zx_iload_n E 2 dd_Types_addMember_37 rfl rfl ?_
  refine zx_dup2 E dd_Types_addMember_38 rfl rfl ?_
  refine zx_iald E zg_4 Nat.zero_lt_one dd_Types_addMember_39 ?_
  refine zx_iconst E (1 : Int32) dd_Types_addMember_40 (by decide) ?_
  refine zx_iadd E dd_Types_addMember_41 ?_
  refine zx_iast E zg_4 Nat.zero_lt_one dd_Types_addMember_42 ?_
  refine zx_letH (fun h2 => ?_)
  refine zx_aload_n E 1 dd_Types_addMember_43 rfl rfl ?_
  refine zx_getR E 5 0 zd_Types_names zg_1 Nat.zero_lt_one (zr_Types_names _) zw_44 dd_Types_addMember_44 ?_
  refine zx_iload_n E 2 dd_Types_addMember_47 rfl rfl ?_
  refine zx_bipush E (8 : Int32) dd_Types_addMember_48 (by decide) ?_
  refine zx_imul E dd_Types_addMember_50 ?_
  refine zx_iload E 0 dd_Types_addMember_51 rfl ?_
  refine zx_iadd E dd_Types_addMember_53 ?_
  refine zx_iload_n E 3 dd_Types_addMember_54 rfl rfl ?_
  refine zx_iast E zg_5 Nat.zero_lt_one dd_Types_addMember_55 ?_
  refine zx_letH (fun h3 => ?_)
  refine zx_aload_n E 1 dd_Types_addMember_56 rfl rfl ?_
  refine zx_getR E 6 0 zd_Types_memberTypes zg_1 Nat.zero_lt_one (zr_Types_memberTypes _) zw_45 dd_Types_addMember_57 ?_
  refine zx_iload_n E 2 dd_Types_addMember_60 rfl rfl ?_
  refine zx_bipush E (8 : Int32) dd_Types_addMember_61 (by decide) ?_
  refine zx_imul E dd_Types_addMember_63 ?_
  refine zx_iload E 0 dd_Types_addMember_64 rfl ?_
  refine zx_iadd E dd_Types_addMember_66 ?_
  refine zx_iload_n E 4 dd_Types_addMember_67 rfl rfl ?_
  refine zx_iast E zg_6 Nat.zero_lt_one dd_Types_addMember_68 ?_
  refine zx_letH (fun h4 => ?_)
  refine zx_iload E 0 dd_Types_addMember_69 rfl ?_
  exact zx_iret E rfl rfl dd_Types_addMember_71
set_option maxHeartbeats 4000000 in
set_option maxRecDepth 20000 in
theorem zj_Types_listOf_33 {B : zx_B} (E : zx_E B zm_Types_listOf) (h : zx_H) (k3 : (Int32 → Int32 → Option Int32)) (hk3 : ∀ (x1 : Int32) (x2 : Int32), zx_X B zm_Types_listOf (zx_QM B (fun r => ((some (Value.int r) : Option Value), h))) (k3 x1 x2) 0 0 3 [(0, zx_rV (zx_BK B) 1 0), (1, .int x1), (2, .int x2)] [] h) (x1 : Int32) (x2 : Int32) : zx_X B zm_Types_listOf (zx_QM B (fun r => ((some (Value.int r) : Option Value), h))) (zs_Types_listOf_J33 h k3 x1 x2) 0 0 33 [(0, zx_rV (zx_BK B) 1 0), (1, .int x1), (2, .int x2)] [] h := by
  unfold zs_Types_listOf_J33
  refine zx_iinc E 2 (x2 + (1 : Int32)) (lv1 := [(2, .int (x2 + (1 : Int32))), (0, zx_rV (zx_BK B) 1 0), (1, .int x1)]) dd_Types_listOf_33 rfl rfl (by decide) rfl ?_
  refine zx_goto E 3 dd_Types_listOf_36 rfl ?_
  refine zx_sub [1, 2, 0] rfl ?_
  exact hk3 x1 (x2 + (1 : Int32))
set_option maxHeartbeats 4000000 in
set_option maxRecDepth 20000 in
theorem zb_Types_listOf_3 {B : zx_B} (E : zx_E B zm_Types_listOf) (h : zx_H)  (k3 : (Int32 → Int32 → Option Int32)) (hk3 : ∀ (x1 : Int32) (x2 : Int32), zx_X B zm_Types_listOf (zx_QM B (fun r => ((some (Value.int r) : Option Value), h))) (k3 x1 x2) 0 0 3 [(0, zx_rV (zx_BK B) 1 0), (1, .int x1), (2, .int x2)] [] h) (x1 : Int32) (x2 : Int32) : zx_X B zm_Types_listOf (zx_QM B (fun r => ((some (Value.int r) : Option Value), h))) (zs_Types_listOf_L3_body h  k3 x1 x2) 0 0 3 [(0, zx_rV (zx_BK B) 1 0), (1, .int x1), (2, .int x2)] [] h := by
  unfold zs_Types_listOf_L3_body
  refine zx_iload_n E 2 dd_Types_listOf_3 rfl rfl ?_
  refine zx_aload_n E 0 dd_Types_listOf_4 rfl rfl ?_
  refine zx_getI E zd_Types_size zg_1 Nat.zero_lt_one zw_46 dd_Types_listOf_5 ?_
  refine zx_icmp_ge E 39 dd_Types_listOf_8 rfl ?_ ?_
  rotate_left
  · refine zx_iconst E (-1 : Int32) dd_Types_listOf_39 (by decide) ?_
    exact zx_iret E rfl rfl dd_Types_listOf_40
  refine zx_aload_n E 0 dd_Types_listOf_11 rfl rfl ?_
  refine zx_getR E 2 0 zd_Types_forms zg_1 Nat.zero_lt_one (zr_Types_forms _) zw_41 dd_Types_listOf_12 ?_
  refine zx_iload_n E 2 dd_Types_listOf_15 rfl rfl ?_
  refine zx_iald E zg_2 Nat.zero_lt_one dd_Types_listOf_16 ?_
  refine zx_iconst E (3 : Int32) dd_Types_listOf_17 (by decide) ?_
  refine zx_icmp_ne E 33 dd_Types_listOf_18 rfl ?_ ?_
  rotate_left
  · exact zj_Types_listOf_33 E h k3 hk3 x1 x2
  refine zx_aload_n E 0 dd_Types_listOf_21 rfl rfl ?_
  refine zx_getR E 3 0 zd_Types_elements zg_1 Nat.zero_lt_one (zr_Types_elements _) zw_42 dd_Types_listOf_22 ?_
  refine zx_iload_n E 2 dd_Types_listOf_25 rfl rfl ?_
  refine zx_iald E zg_3 Nat.zero_lt_one dd_Types_listOf_26 ?_
  refine zx_iload_n E 1 dd_Types_listOf_27 rfl rfl ?_
  refine zx_icmp_ne E 33 dd_Types_listOf_28 rfl ?_ ?_
  rotate_left
  · exact zj_Types_listOf_33 E h k3 hk3 x1 x2
  refine zx_iload_n E 2 dd_Types_listOf_31 rfl rfl ?_
  exact zx_iret E rfl rfl dd_Types_listOf_32
theorem zj_Types_listOf_3 {B : zx_B} (E : zx_E B zm_Types_listOf) (h : zx_H)  : ∀ (x1 : Int32) (x2 : Int32), zx_X B zm_Types_listOf (zx_QM B (fun r => ((some (Value.int r) : Option Value), h))) (zs_Types_listOf_L3 h  x1 x2) 0 0 3 [(0, zx_rV (zx_BK B) 1 0), (1, .int x1), (2, .int x2)] [] h := by
  unfold zs_Types_listOf_L3
  generalize zx_fuel = n
  induction n with
  | zero => intros; exact zx_non
  | succ n ih => intro x1 x2; exact zb_Types_listOf_3 E h  _ ih x1 x2
set_option maxHeartbeats 4000000 in
set_option maxRecDepth 20000 in
theorem zt_Types_listOf (l : Launch) (K : zx_K) (a1 : Int32) (h : zx_H) (r : Int32) (hf : zs_Types_listOf a1 h = some r) : zx_MR l zm_Types_listOf zy_Types_listOf K [zx_rV K 1 0, .int a1] h (some (.int r)) h := by
  refine zx_ofM (M := zm_Types_listOf) (y := zy_Types_listOf) (r := r) (as := [zx_rV K 1 0, .int a1]) (ρ := (fun r => ((some (Value.int r) : Option Value), h))) (by decide) rfl hf (Nat.le_of_ble_eq_true rfl) ?_
  intro B hl hK E
  subst hK
  subst hl
  show zx_X B zm_Types_listOf _ _ 0 0 0 [(0, zx_rV (zx_BK B) 1 0), (1, .int a1)] [] h
  unfold zs_Types_listOf
  refine zx_bipush E (15 : Int32) dd_Types_listOf_0 (by decide) ?_
  refine zx_istore_n E (lv1 := [(2, .int (15 : Int32)), (0, zx_rV (zx_BK B) 1 0), (1, .int a1)]) dd_Types_listOf_2 rfl (by decide) rfl ?_
  refine zx_sub [1, 2, 0] rfl ?_
  exact zj_Types_listOf_3 E h a1 (15 : Int32)
