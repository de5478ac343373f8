/-! walks (printed by gen.py) -/
set_option maxHeartbeats 4000000 in
set_option maxRecDepth 20000 in
theorem zj_Plan_trace_57 {B : zx_B} (E : zx_E B zm_Plan_trace) (k11 : (Fin 129 → Int64 → Int32 → Int32 → zx_H → Option (Bool × zx_H))) (hk11 : ∀ (x0 : Fin 129) (x3 : Int64) (x5 : Int32) (x6 : Int32) (h : zx_H), zx_X B zm_Plan_trace (zx_QM B (fun r => ((some (Value.int (zx_b r.1)) : Option Value), r.2))) (k11 x0 x3 x5 x6 h) 0 0 11 [(0, zx_rV (zx_BK B) 60 x0.val), (1, zx_rV (zx_BK B) 1 0), (3, .long x3), (5, .int x5), (6, .int x6)] [] h) (x0 : Fin 129) (x3 : Int64) (x5 : Int32) (x6 : Int32) (s0 : Int32) (h : zx_H) : zx_X B zm_Plan_trace (zx_QM B (fun r => ((some (Value.int (zx_b r.1)) : Option Value), r.2))) (zs_Plan_trace_J57 k11 x0 x3 x5 x6 s0 h) 0 0 57 [(0, zx_rV (zx_BK B) 60 x0.val), (1, zx_rV (zx_BK B) 1 0), (3, .long x3), (5, .int x5), (6, .int x6)] [.int s0] h := by
  unfold zs_Plan_trace_J57
  refine zx_istore E (lv1 := [(8, .int s0), (0, zx_rV (zx_BK B) 60 x0.val), (1, zx_rV (zx_BK B) 1 0), (3, .long x3), (5, .int x5), (6, .int x6)]) dd_Plan_trace_57 (by decide) rfl ?_
  refine zx_iload E 0 dd_Plan_trace_59 rfl ?_
  refine zx_iconst E (-1 : Int32) dd_Plan_trace_61 (by decide) ?_
  refine zx_icmp_ne E 67 dd_Plan_trace_62 rfl ?_ ?_
  · refine zx_iconst E (0 : Int32) dd_Plan_trace_65 (by decide) ?_
    exact zx_zret E false rfl rfl rfl dd_Plan_trace_66
  refine zx_aload_n E 1 dd_Plan_trace_67 rfl rfl ?_
  refine zx_getR E 61 x0.val zd_Plan_places zg_60 x0.isLt (zr_Plan_places _) zw_119 dd_Plan_trace_68 ?_
  refine zx_iload E 5 dd_Plan_trace_71 rfl ?_
  refine zx_iload E 0 dd_Plan_trace_73 rfl ?_
  refine zx_iast E zg_61 x0.isLt dd_Plan_trace_75 ?_
  refine zx_letH (fun h1 => ?_)
  refine zx_aload_n E 1 dd_Plan_trace_76 rfl rfl ?_
  refine zx_dup E dd_Plan_trace_77 rfl ?_
  refine zx_getI E zd_Plan_steps zg_60 x0.isLt zw_117 dd_Plan_trace_78 ?_
  refine zx_iconst E (1 : Int32) dd_Plan_trace_81 (by decide) ?_
  refine zx_iadd E dd_Plan_trace_82 ?_
  refine zx_putI E zd_Plan_steps zp_Plan_steps zg_60 x0.isLt rfl rfl zw_117 dd_Plan_trace_83 ?_
  refine zx_letH (fun h2 => ?_)
  refine zx_aload_n E 2 dd_Plan_trace_86 rfl rfl ?_
  refine zx_iload E 4 dd_Plan_trace_87 rfl ?_
  refine zx_iload E 0 dd_Plan_trace_89 rfl ?_
  refine zx_callV_i (T := zx_TTypes) E [.int x5, .int s0] (fun rZ eZ => zt_Types_typeAt _ _ x5 s0 h2 _ eZ) zg_1 Nat.zero_lt_one rfl zc_Plan_33 ⟨by decide, by decide⟩ (Nat.zero_le _) (Nat.zero_le _) rfl rfl (Nat.le_of_ble_eq_true rfl) dd_Plan_trace_91 (fun r3 => ?_)
  refine zx_istore E (lv1 := [(5, .int r3), (8, .int s0), (0, zx_rV (zx_BK B) 60 x0.val), (1, zx_rV (zx_BK B) 1 0), (3, .long x3), (6, .int x6)]) dd_Plan_trace_94 (by decide) rfl ?_
  refine zx_iinc E 5 (x6 + (1 : Int32)) (lv1 := [(6, .int (x6 + (1 : Int32))), (5, .int r3), (8, .int s0), (0, zx_rV (zx_BK B) 60 x0.val), (1, zx_rV (zx_BK B) 1 0), (3, .long x3)]) dd_Plan_trace_96 rfl rfl (by decide) rfl ?_
  refine zx_goto E 11 dd_Plan_trace_99 rfl ?_
  refine zx_sub [3, 4, 5, 1, 0] rfl ?_
  exact hk11 x0 x3 r3 (x6 + (1 : Int32)) h2
set_option maxHeartbeats 4000000 in
set_option maxRecDepth 20000 in
theorem zj_Plan_trace_102 {B : zx_B} (E : zx_E B zm_Plan_trace)  (x0 : Fin 129) (x5 : Int32) (h : zx_H) : zx_X B zm_Plan_trace (zx_QM B (fun r => ((some (Value.int (zx_b r.1)) : Option Value), r.2))) (zs_Plan_trace_J102  x0 x5 h) 0 0 102 [(0, zx_rV (zx_BK B) 60 x0.val), (5, .int x5)] [] h := by
  unfold zs_Plan_trace_J102
  refine zx_aload_n E 0 dd_Plan_trace_102 rfl rfl ?_
  refine zx_iload E 1 dd_Plan_trace_103 rfl ?_
  refine zx_putI E zd_Plan_sourceType zp_Plan_sourceType zg_60 x0.isLt rfl rfl zw_121 dd_Plan_trace_105 ?_
  refine zx_letH (fun h1 => ?_)
  refine zx_aload_n E 0 dd_Plan_trace_108 rfl rfl ?_
  refine zx_getI E zd_Plan_steps zg_60 x0.isLt zw_117 dd_Plan_trace_109 ?_
  refine zx_if_le E 119 dd_Plan_trace_112 rfl ?_ ?_
  rotate_left
  · refine zx_iconst E (0 : Int32) dd_Plan_trace_119 (by decide) ?_
    exact zx_zret E false rfl rfl rfl dd_Plan_trace_120
  refine zx_iconst E (1 : Int32) dd_Plan_trace_115 (by decide) ?_
  refine zx_goto E 120 dd_Plan_trace_116 rfl ?_
  exact zx_zret E true rfl rfl rfl dd_Plan_trace_120
set_option maxHeartbeats 4000000 in
set_option maxRecDepth 20000 in
theorem zb_Plan_trace_11 {B : zx_B} (E : zx_E B zm_Plan_trace)  (k11 : (Fin 129 → Int64 → Int32 → Int32 → zx_H → Option (Bool × zx_H))) (hk11 : ∀ (x0 : Fin 129) (x3 : Int64) (x5 : Int32) (x6 : Int32) (h : zx_H), zx_X B zm_Plan_trace (zx_QM B (fun r => ((some (Value.int (zx_b r.1)) : Option Value), r.2))) (k11 x0 x3 x5 x6 h) 0 0 11 [(0, zx_rV (zx_BK B) 60 x0.val), (1, zx_rV (zx_BK B) 1 0), (3, .long x3), (5, .int x5), (6, .int x6)] [] h) (x0 : Fin 129) (x3 : Int64) (x5 : Int32) (x6 : Int32) (h : zx_H) : zx_X B zm_Plan_trace (zx_QM B (fun r => ((some (Value.int (zx_b r.1)) : Option Value), r.2))) (zs_Plan_trace_L11_body  k11 x0 x3 x5 x6 h) 0 0 11 [(0, zx_rV (zx_BK B) 60 x0.val), (1, zx_rV (zx_BK B) 1 0), (3, .long x3), (5, .int x5), (6, .int x6)] [] h := by
  unfold zs_Plan_trace_L11_body
  refine zx_iload E 4 dd_Plan_trace_11 rfl ?_
  refine zx_iconst E (3 : Int32) dd_Plan_trace_13 (by decide) ?_
  refine zx_icmp_ge E 102 dd_Plan_trace_14 rfl ?_ ?_
  rotate_left
  · refine zx_sub [0, 3] rfl ?_
    exact zj_Plan_trace_102 E x0 x5 h
  refine zx_lload_n E 2 dd_Plan_trace_17 rfl rfl ?_
  refine zx_iload E 4 dd_Plan_trace_18 rfl ?_
  refine zx_callS_i E [.long x3, .int x6] (fun rZ eZ => zt_Types_nameIn _ _ x3 x6 h _ eZ) zc_Plan_19 ⟨by decide, by decide⟩ (Nat.zero_le _) (Nat.zero_le _) rfl rfl (Nat.le_of_ble_eq_true rfl) dd_Plan_trace_20 (fun r1 => ?_)
  refine zx_iconst E (1 : Int32) dd_Plan_trace_23 (by decide) ?_
  refine zx_isub E dd_Plan_trace_24 ?_
  refine zx_leti (fun y2 => ?_)
  refine zx_istore E (lv1 := [(7, .int y2), (0, zx_rV (zx_BK B) 60 x0.val), (1, zx_rV (zx_BK B) 1 0), (3, .long x3), (5, .int x5), (6, .int x6)]) dd_Plan_trace_25 (by decide) rfl ?_
  refine zx_iload E 0 dd_Plan_trace_27 rfl ?_
  refine zx_if_ge E 35 dd_Plan_trace_29 rfl ?_ ?_
  · refine zx_goto E 102 dd_Plan_trace_32 rfl ?_
    refine zx_sub [1, 4] rfl ?_
    exact zj_Plan_trace_102 E x0 x5 h
  refine zx_aload_n E 2 dd_Plan_trace_35 rfl rfl ?_
  refine zx_iload E 4 dd_Plan_trace_36 rfl ?_
  refine zx_callV_z (T := zx_TTypes) E [.int x5] (fun rZ eZ => zt_Types_isBean _ _ x5 h _ eZ) zg_1 Nat.zero_lt_one rfl zc_Plan_25 ⟨by decide, by decide⟩ (Nat.zero_le _) (Nat.zero_le _) rfl rfl (Nat.le_of_ble_eq_true rfl) dd_Plan_trace_38 (fun r3 => ?_)
  refine zx_ifb_eq E (x := r3) 56 dd_Plan_trace_41 rfl ?_ ?_
  rotate_left
  · refine zx_iconst E (-1 : Int32) dd_Plan_trace_56 (by decide) ?_
    refine zx_sub [1, 2, 3, 4, 5] rfl ?_
    exact zj_Plan_trace_57 E k11 hk11 x0 x3 x5 x6 (-1 : Int32) h
  refine zx_aload_n E 2 dd_Plan_trace_44 rfl rfl ?_
  refine zx_iload E 4 dd_Plan_trace_45 rfl ?_
  refine zx_iload E 0 dd_Plan_trace_47 rfl ?_
  refine zx_i2l E dd_Plan_trace_49 ?_
  refine zx_callV_i (T := zx_TTypes) E [.int x5, .long (y2.toInt64)] (fun rZ eZ => zt_Types_placeOf _ _ x5 (y2.toInt64) h _ eZ) zg_1 Nat.zero_lt_one rfl zc_Plan_29 ⟨by decide, by decide⟩ (Nat.zero_le _) (Nat.zero_le _) rfl rfl (Nat.le_of_ble_eq_true rfl) dd_Plan_trace_50 (fun r4 => ?_)
  refine zx_goto E 57 dd_Plan_trace_53 rfl ?_
  refine zx_sub [1, 2, 3, 4, 5] rfl ?_
  exact zj_Plan_trace_57 E k11 hk11 x0 x3 x5 x6 r4 h
theorem zj_Plan_trace_11 {B : zx_B} (E : zx_E B zm_Plan_trace)  : ∀ (x0 : Fin 129) (x3 : Int64) (x5 : Int32) (x6 : Int32) (h : zx_H), zx_X B zm_Plan_trace (zx_QM B (fun r => ((some (Value.int (zx_b r.1)) : Option Value), r.2))) (zs_Plan_trace_L11  x0 x3 x5 x6 h) 0 0 11 [(0, zx_rV (zx_BK B) 60 x0.val), (1, zx_rV (zx_BK B) 1 0), (3, .long x3), (5, .int x5), (6, .int x6)] [] h := by
  unfold zs_Plan_trace_L11
  generalize zx_fuel = n
  induction n with
  | zero => intros; exact zx_non
  | succ n ih => intro x0 x3 x5 x6 h; exact zb_Plan_trace_11 E  _ ih x0 x3 x5 x6 h
set_option maxHeartbeats 4000000 in
set_option maxRecDepth 20000 in
theorem zt_Plan_trace (l : Launch) (K : zx_K) (th : Fin 129) (a2 : Int32) (a3 : Int64) (h : zx_H) (r : (Bool × zx_H)) (hf : zs_Plan_trace th a2 a3 h = some r) : zx_MR l zm_Plan_trace zy_Plan_trace K [zx_rV K 60 th.val, zx_rV K 1 0, .int a2, .long a3] h (some (.int (zx_b r.1))) r.2 := by
  refine zx_ofM (M := zm_Plan_trace) (y := zy_Plan_trace) (r := r) (as := [zx_rV K 60 th.val, zx_rV K 1 0, .int a2, .long a3]) (ρ := (fun r => ((some (Value.int (zx_b r.1)) : Option Value), r.2))) (by decide) rfl hf (Nat.le_of_ble_eq_true rfl) ?_
  intro B hl hK E
  subst hK
  subst hl
  show zx_X B zm_Plan_trace _ _ 0 0 0 [(0, zx_rV (zx_BK B) 60 th.val), (1, zx_rV (zx_BK B) 1 0), (2, .int a2), (3, .long a3)] [] h
  unfold zs_Plan_trace
  refine zx_iload_n E 2 dd_Plan_trace_0 rfl rfl ?_
  refine zx_istore E (lv1 := [(5, .int a2), (0, zx_rV (zx_BK B) 60 th.val), (1, zx_rV (zx_BK B) 1 0), (2, .int a2), (3, .long a3)]) dd_Plan_trace_1 (by decide) rfl ?_
  refine zx_aload_n E 1 dd_Plan_trace_3 rfl rfl ?_
  refine zx_iconst E (0 : Int32) dd_Plan_trace_4 (by decide) ?_
  refine zx_putI E zd_Plan_steps zp_Plan_steps zg_60 th.isLt rfl rfl zw_117 dd_Plan_trace_5 ?_
  refine zx_letH (fun h1 => ?_)
  refine zx_iconst E (0 : Int32) dd_Plan_trace_8 (by decide) ?_
  refine zx_istore E (lv1 := [(6, .int (0 : Int32)), (5, .int a2), (0, zx_rV (zx_BK B) 60 th.val), (1, zx_rV (zx_BK B) 1 0), (2, .int a2), (3, .long a3)]) dd_Plan_trace_9 (by decide) rfl ?_
  refine zx_sub [2, 3, 5, 1, 0] rfl ?_
  exact zj_Plan_trace_11 E th a3 a2 (0 : Int32) h1
set_option maxHeartbeats 4000000 in
set_option maxRecDepth 20000 in
theorem zt_Planner_planInverse (l : Launch) (K : zx_K) (a1 : Fin 16) (h : zx_H) (r : (Bool × zx_H)) (hf : zs_Planner_planInverse a1 h = some r) : zx_MR l zm_Planner_planInverse zy_Planner_planInverse K [zx_rV K 16 0, zx_rV K 54 a1.val] h (some (.int (zx_b r.1))) r.2 := by
  refine zx_ofM (M := zm_Planner_planInverse) (y := zy_Planner_planInverse) (r := r) (as := [zx_rV K 16 0, zx_rV K 54 a1.val]) (ρ := (fun r => ((some (Value.int (zx_b r.1)) : Option Value), r.2))) (by decide) rfl hf (Nat.le_of_ble_eq_true rfl) ?_
  intro B hl hK E
  subst hK
  subst hl
  show zx_X B zm_Planner_planInverse _ _ 0 0 0 [(0, zx_rV (zx_BK B) 16 0), (1, zx_rV (zx_BK B) 54 a1.val)] [] h
  unfold zs_Planner_planInverse
  refine zx_aload_n E 1 dd_Planner_planInverse_0 rfl rfl ?_
  refine zx_iconst E (-1 : Int32) dd_Planner_planInverse_1 (by decide) ?_
  refine zx_putI E zd_Method_inverse zp_Method_inverse zg_54 a1.isLt rfl rfl zw_172 dd_Planner_planInverse_2 ?_
  refine zx_letH (fun h1 => ?_)
  refine zx_aload_n E 1 dd_Planner_planInverse_5 rfl rfl ?_
  refine zx_bipush E (7 : Int32) dd_Planner_planInverse_6 (by decide) ?_
  refine zx_callV_i (T := zx_TMethod) E [.int (7 : Int32)] (fun rZ eZ => zt_Method_latest _ _ a1 (7 : Int32) h1 _ eZ) zg_54 a1.isLt rfl zc_Planner_73 ⟨by decide, by decide⟩ (Nat.zero_le _) (Nat.zero_le _) rfl rfl (Nat.le_of_ble_eq_true rfl) dd_Planner_planInverse_8 (fun r2 => ?_)
  refine zx_istore_n E (lv1 := [(2, .int r2), (0, zx_rV (zx_BK B) 16 0), (1, zx_rV (zx_BK B) 54 a1.val)]) dd_Planner_planInverse_11 rfl (by decide) rfl ?_
  refine zx_iload_n E 0 dd_Planner_planInverse_12 rfl rfl ?_
  refine zx_iconst E (-1 : Int32) dd_Planner_planInverse_13 (by decide) ?_
  refine zx_icmp_ne E 19 dd_Planner_planInverse_14 rfl ?_ ?_
  · refine zx_iconst E (1 : Int32) dd_Planner_planInverse_17 (by decide) ?_
    exact zx_zret E true rfl rfl rfl dd_Planner_planInverse_18
  refine zx_aload_n E 2 dd_Planner_planInverse_19 rfl rfl ?_
  refine zx_getR E 57 a1.val zd_Method_whats zg_54 a1.isLt (zr_Method_whats _) zw_170 dd_Planner_planInverse_20 ?_
  refine zx_iload_n E 0 dd_Planner_planInverse_23 rfl rfl ?_
  refine zx_lald E zg_57 a1.isLt dd_Planner_planInverse_24 ?_
  refine zx_letl (fun y3 => ?_)
  refine zx_lstore_n E (lv1 := [(3, .long y3), (2, .int r2), (0, zx_rV (zx_BK B) 16 0), (1, zx_rV (zx_BK B) 54 a1.val)]) dd_Planner_planInverse_25 rfl (by decide) rfl ?_
  refine zx_aload_n E 2 dd_Planner_planInverse_26 rfl rfl ?_
  refine zx_getR E 11 0 zd_Planner_model zg_16 Nat.zero_lt_one (zr_Planner_model _) zw_274 dd_Planner_planInverse_27 ?_
  refine zx_lload_n E 0 dd_Planner_planInverse_30 rfl rfl ?_
  refine zx_callV_z (T := zx_TModel) E [.long y3] (fun rZ eZ => zt_Model_hasMethod _ _ y3 h1 _ eZ) zg_11 Nat.zero_lt_one rfl zc_Planner_112 ⟨by decide, by decide⟩ (Nat.zero_le _) (Nat.zero_le _) rfl rfl (Nat.le_of_ble_eq_true rfl) dd_Planner_planInverse_31 (fun r4 => ?_)
  refine zx_ifb_ne E (x := r4) 39 dd_Planner_planInverse_34 rfl ?_ ?_
  · refine zx_iconst E (0 : Int32) dd_Planner_planInverse_37 (by decide) ?_
    exact zx_zret E false rfl rfl rfl dd_Planner_planInverse_38
  refine zx_aload_n E 2 dd_Planner_planInverse_39 rfl rfl ?_
  refine zx_getR E 11 0 zd_Planner_model zg_16 Nat.zero_lt_one (zr_Planner_model _) zw_274 dd_Planner_planInverse_40 ?_
  refine zx_getR E 13 0 zd_Model_methods zg_11 Nat.zero_lt_one (zr_Model_methods _) zw_207 dd_Planner_planInverse_43 ?_
  refine zx_lload_n E 0 dd_Planner_planInverse_46 rfl rfl ?_
  refine zx_l2i E dd_Planner_planInverse_47 ?_
  refine zx_aaldM E dd_Planner_planInverse_48 (fun j5 => ?_)
  refine zx_astore E (lv1 := [(5, zx_rV (zx_BK B) 54 j5.val), (3, .long y3), (2, .int r2), (0, zx_rV (zx_BK B) 16 0), (1, zx_rV (zx_BK B) 54 a1.val)]) dd_Planner_planInverse_49 (by decide) rfl ?_
  refine zx_aload E 0 dd_Planner_planInverse_51 rfl ?_
  refine zx_getI E zd_Method_from zg_54 j5.isLt zw_152 dd_Planner_planInverse_53 ?_
  refine zx_aload_n E 4 dd_Planner_planInverse_56 rfl rfl ?_
  refine zx_getI E zd_Method_to zg_54 a1.isLt zw_156 dd_Planner_planInverse_57 ?_
  refine zx_icmp_ne E 86 dd_Planner_planInverse_60 rfl ?_ ?_
  rotate_left
  · refine zx_iconst E (0 : Int32) dd_Planner_planInverse_86 (by decide) ?_
    exact zx_zret E false rfl rfl rfl dd_Planner_planInverse_87
  refine zx_aload E 0 dd_Planner_planInverse_63 rfl ?_
  refine zx_getI E zd_Method_to zg_54 j5.isLt zw_156 dd_Planner_planInverse_65 ?_
  refine zx_aload_n E 4 dd_Planner_planInverse_68 rfl rfl ?_
  refine zx_getI E zd_Method_from zg_54 a1.isLt zw_152 dd_Planner_planInverse_69 ?_
  refine zx_icmp_ne E 86 dd_Planner_planInverse_72 rfl ?_ ?_
  rotate_left
  · refine zx_iconst E (0 : Int32) dd_Planner_planInverse_86 (by decide) ?_
    exact zx_zret E false rfl rfl rfl dd_Planner_planInverse_87
  refine zx_aload E 0 dd_Planner_planInverse_75 rfl ?_
  refine zx_bipush E (7 : Int32) dd_Planner_planInverse_77 (by decide) ?_
  refine zx_callV_i (T := zx_TMethod) E [.int (7 : Int32)] (fun rZ eZ => zt_Method_latest _ _ j5 (7 : Int32) h1 _ eZ) zg_54 j5.isLt rfl zc_Planner_73 ⟨by decide, by decide⟩ (Nat.zero_le _) (Nat.zero_le _) rfl rfl (Nat.le_of_ble_eq_true rfl) dd_Planner_planInverse_79 (fun r6 => ?_)
  refine zx_iconst E (-1 : Int32) dd_Planner_planInverse_82 (by decide) ?_
  refine zx_icmp_eq E 88 dd_Planner_planInverse_83 rfl ?_ ?_
  · refine zx_iconst E (0 : Int32) dd_Planner_planInverse_86 (by decide) ?_
    exact zx_zret E false rfl rfl rfl dd_Planner_planInverse_87
  refine zx_aload_n E 4 dd_Planner_planInverse_88 rfl rfl ?_
  refine zx_lload_n E 1 dd_Planner_planInverse_89 rfl rfl ?_
  refine zx_l2i E dd_Planner_planInverse_90 ?_
  refine zx_putI E zd_Method_inverse zp_Method_inverse zg_54 a1.isLt rfl rfl zw_172 dd_Planner_planInverse_91 ?_
  refine zx_letH (fun h7 => ?_)
  refine zx_iconst E (1 : Int32) dd_Planner_planInverse_94 (by decide) ?_
  exact zx_zret E true rfl rfl rfl dd_Planner_planInverse_95
set_option maxHeartbeats 4000000 in
set_option maxRecDepth 20000 in
theorem zj_Planner_ruleFault_289 {B : zx_B} (E : zx_E B zm_Planner_ruleFault)  (x8 : Bool) (h : zx_H) : zx_X B zm_Planner_ruleFault (zx_QM B (fun r => ((some (Value.int r.1) : Option Value), r.2))) (zs_Planner_ruleFault_J289  x8 h) 0 0 289 [(8, .int (zx_b x8))] [] h := by
  unfold zs_Planner_ruleFault_J289
  refine zx_iload E 0 dd_Planner_ruleFault_289 rfl ?_
  refine zx_ifb_eq E (x := x8) 298 dd_Planner_ruleFault_291 rfl ?_ ?_
  rotate_left
  · refine zx_iconst E (4 : Int32) dd_Planner_ruleFault_298 (by decide) ?_
    exact zx_iret E rfl rfl dd_Planner_ruleFault_299
  refine zx_iconst E (0 : Int32) dd_Planner_ruleFault_294 (by decide) ?_
  refine zx_goto E 299 dd_Planner_ruleFault_295 rfl ?_
  exact zx_iret E rfl rfl dd_Planner_ruleFault_299
set_option maxHeartbeats 4000000 in
set_option maxRecDepth 20000 in
theorem zj_Planner_ruleFault_227 {B : zx_B} (E : zx_E B zm_Planner_ruleFault)  (s0 : Bool) (h : zx_H) : zx_X B zm_Planner_ruleFault (zx_QM B (fun r => ((some (Value.int r.1) : Option Value), r.2))) (zs_Planner_ruleFault_J227  s0 h) 0 0 227 [] [.int (zx_b s0)] h := by
  unfold zs_Planner_ruleFault_J227
  refine zx_istore E (lv1 := [(8, .int (zx_b s0))]) dd_Planner_ruleFault_227 (by decide) rfl ?_
  refine zx_goto E 289 dd_Planner_ruleFault_229 rfl ?_
  exact zj_Planner_ruleFault_289 E s0 h
set_option maxHeartbeats 4000000 in
set_option maxRecDepth 20000 in
theorem zj_Planner_ruleFault_222 {B : zx_B} (E : zx_E B zm_Planner_ruleFault)   (h : zx_H) : zx_X B zm_Planner_ruleFault (zx_QM B (fun r => ((some (Value.int r.1) : Option Value), r.2))) (zs_Planner_ruleFault_J222  h) 0 0 222 [] [] h := by
  unfold zs_Planner_ruleFault_J222
  refine zx_iconst E (1 : Int32) dd_Planner_ruleFault_222 (by decide) ?_
  refine zx_goto E 227 dd_Planner_ruleFault_223 rfl ?_
  exact zj_Planner_ruleFault_227 E true h
set_option maxHeartbeats 4000000 in
set_option maxRecDepth 20000 in
theorem zj_Planner_ruleFault_277 {B : zx_B} (E : zx_E B zm_Planner_ruleFault)  (s0 : Bool) (h : zx_H) : zx_X B zm_Planner_ruleFault (zx_QM B (fun r => ((some (Value.int r.1) : Option Value), r.2))) (zs_Planner_ruleFault_J277  s0 h) 0 0 277 [] [.int (zx_b s0)] h := by
  unfold zs_Planner_ruleFault_J277
  refine zx_istore E (lv1 := [(8, .int (zx_b s0))]) dd_Planner_ruleFault_277 (by decide) rfl ?_
  refine zx_goto E 289 dd_Planner_ruleFault_279 rfl ?_
  exact zj_Planner_ruleFault_289 E s0 h
set_option maxHeartbeats 4000000 in
set_option maxRecDepth 20000 in
theorem zj_Planner_ruleFault_272 {B : zx_B} (E : zx_E B zm_Planner_ruleFault)   (h : zx_H) : zx_X B zm_Planner_ruleFault (zx_QM B (fun r => ((some (Value.int r.1) : Option Value), r.2))) (zs_Planner_ruleFault_J272  h) 0 0 272 [] [] h := by
  unfold zs_Planner_ruleFault_J272
  refine zx_iconst E (1 : Int32) dd_Planner_ruleFault_272 (by decide) ?_
  refine zx_goto E 277 dd_Planner_ruleFault_273 rfl ?_
  exact zj_Planner_ruleFault_277 E true h
set_option maxHeartbeats 4000000 in
set_option maxRecDepth 20000 in
theorem zj_Planner_ruleFault_276 {B : zx_B} (E : zx_E B zm_Planner_ruleFault)   (h : zx_H) : zx_X B zm_Planner_ruleFault (zx_QM B (fun r => ((some (Value.int r.1) : Option Value), r.2))) (zs_Planner_ruleFault_J276  h) 0 0 276 [] [] h := by
  unfold zs_Planner_ruleFault_J276
  refine zx_iconst E (0 : Int32) dd_Planner_ruleFault_276 (by decide) ?_
  exact zj_Planner_ruleFault_277 E false h
set_option maxHeartbeats 4000000 in
set_option maxRecDepth 20000 in
theorem zj_Planner_ruleFault_106 {B : zx_B} (E : zx_E B zm_Planner_ruleFault)  (x1 : Fin 16) (x3 : Int32) (x5 : Int64) (x7 : Bool) (h : zx_H) : zx_X B zm_Planner_ruleFault (zx_QM B (fun r => ((some (Value.int r.1) : Option Value), r.2))) (zs_Planner_ruleFault_J106  x1 x3 x5 x7 h) 0 0 106 [(0, zx_rV (zx_BK B) 16 0), (1, zx_rV (zx_BK B) 54 x1.val), (3, .int x3), (5, .long x5), (7, .int (zx_b x7))] [] h := by
  unfold zs_Planner_ruleFault_J106
  refine zx_iconst E (1 : Int32) dd_Planner_ruleFault_106 (by decide) ?_
  refine zx_istore E (lv1 := [(8, .int (1 : Int32)), (0, zx_rV (zx_BK B) 16 0), (1, zx_rV (zx_BK B) 54 x1.val), (3, .int x3), (5, .long x5), (7, .int (zx_b x7))]) dd_Planner_ruleFault_107 (by decide) rfl ?_
  refine zx_iload_n E 3 dd_Planner_ruleFault_109 rfl rfl ?_
  refine zx_tsw E [160, 289, 289, 289, 182, 196, 232, 289, 282] 289 dd_Planner_ruleFault_110 (by decide) rfl (zx_keys _ _ [0, 1, 2, 3, 4, 5, 6, 7, 8] rfl (by decide)) rfl (by decide) (by decide) ?_ ⟨?_, ?_, ?_, ?_, ?_, ?_, ?_, ?_, ?_, trivial⟩
  · refine zx_sub [0] rfl ?_
    exact zj_Planner_ruleFault_289 E true h
  · refine zx_aload_n E 1 dd_Planner_ruleFault_160 rfl rfl ?_
    refine zx_getR E 60 zx_trial.val zd_Planner_trial zg_16 Nat.zero_lt_one (zr_Planner_trial _) zw_276 dd_Planner_ruleFault_161 ?_
    refine zx_aload_n E 1 dd_Planner_ruleFault_164 rfl rfl ?_
    refine zx_getR E 1 0 zd_Planner_types zg_16 Nat.zero_lt_one (zr_Planner_types _) zw_273 dd_Planner_ruleFault_165 ?_
    refine zx_aload_n E 2 dd_Planner_ruleFault_168 rfl rfl ?_
    refine zx_getI E zd_Method_from zg_54 x1.isLt zw_152 dd_Planner_ruleFault_169 ?_
    refine zx_lload E 4 dd_Planner_ruleFault_172 rfl ?_
    refine zx_callV_zw (T := zx_TPlan) E [zx_rV (zx_BK B) 1 0, .int (h.1 54 x1.val 0), .long x5] (fun rZ eZ => zt_Plan_trace _ _ zx_trial (h.1 54 x1.val 0) x5 h _ eZ) zg_60 zx_trial.isLt rfl zc_Planner_130 ⟨by decide, by decide⟩ (Nat.zero_le _) (Nat.zero_le _) rfl rfl (Nat.le_of_ble_eq_true rfl) dd_Planner_ruleFault_174 (fun r1 => ?_)
    refine zx_istore E (lv1 := [(8, .int (zx_b r1.1)), (0, zx_rV (zx_BK B) 16 0), (1, zx_rV (zx_BK B) 54 x1.val), (3, .int x3), (5, .long x5), (7, .int (zx_b x7))]) dd_Planner_ruleFault_177 (by decide) rfl ?_
    refine zx_goto E 289 dd_Planner_ruleFault_179 rfl ?_
    refine zx_sub [0] rfl ?_
    exact zj_Planner_ruleFault_289 E r1.1 r1.2
  · refine zx_sub [0] rfl ?_
    exact zj_Planner_ruleFault_289 E true h
  · refine zx_sub [0] rfl ?_
    exact zj_Planner_ruleFault_289 E true h
  · refine zx_sub [0] rfl ?_
    exact zj_Planner_ruleFault_289 E true h
  · refine zx_aload_n E 1 dd_Planner_ruleFault_182 rfl rfl ?_
    refine zx_getR E 11 0 zd_Planner_model zg_16 Nat.zero_lt_one (zr_Planner_model _) zw_274 dd_Planner_ruleFault_183 ?_
    refine zx_lload E 4 dd_Planner_ruleFault_186 rfl ?_
    refine zx_callV_z (T := zx_TModel) E [.long x5] (fun rZ eZ => zt_Model_hasFunction _ _ x5 h _ eZ) zg_11 Nat.zero_lt_one rfl zc_Planner_134 ⟨by decide, by decide⟩ (Nat.zero_le _) (Nat.zero_le _) rfl rfl (Nat.le_of_ble_eq_true rfl) dd_Planner_ruleFault_188 (fun r2 => ?_)
    refine zx_istore E (lv1 := [(8, .int (zx_b r2)), (0, zx_rV (zx_BK B) 16 0), (1, zx_rV (zx_BK B) 54 x1.val), (3, .int x3), (5, .long x5), (7, .int (zx_b x7))]) dd_Planner_ruleFault_191 (by decide) rfl ?_
    refine zx_goto E 289 dd_Planner_ruleFault_193 rfl ?_
    refine zx_sub [0] rfl ?_
    exact zj_Planner_ruleFault_289 E r2 h
  · refine zx_lload E 4 dd_Planner_ruleFault_196 rfl ?_
    refine zx_ldc2 E (-1 : Int64) zw_709 dd_Planner_ruleFault_198 ?_
    refine zx_lcmp_eq E 222 dd_Planner_ruleFault_201 dd_Planner_ruleFault_202 rfl ?_ ?_
    rotate_left
    · refine zx_sub [] rfl ?_
      exact zj_Planner_ruleFault_222 E h
    refine zx_aload_n E 1 dd_Planner_ruleFault_205 rfl rfl ?_
    refine zx_getR E 1 0 zd_Planner_types zg_16 Nat.zero_lt_one (zr_Planner_types _) zw_273 dd_Planner_ruleFault_206 ?_
    refine zx_aload_n E 2 dd_Planner_ruleFault_209 rfl rfl ?_
    refine zx_getI E zd_Method_to zg_54 x1.isLt zw_156 dd_Planner_ruleFault_210 ?_
    refine zx_lload E 4 dd_Planner_ruleFault_213 rfl ?_
    refine zx_callV_i (T := zx_TTypes) E [.int (h.1 54 x1.val 1), .long x5] (fun rZ eZ => zt_Types_placeOf _ _ (h.1 54 x1.val 1) x5 h _ eZ) zg_1 Nat.zero_lt_one rfl zc_Planner_126 ⟨by decide, by decide⟩ (Nat.zero_le _) (Nat.zero_le _) rfl rfl (Nat.le_of_ble_eq_true rfl) dd_Planner_ruleFault_215 (fun r3 => ?_)
    refine zx_iconst E (-1 : Int32) dd_Planner_ruleFault_218 (by decide) ?_
    refine zx_icmp_eq E 226 dd_Planner_ruleFault_219 rfl ?_ ?_
    · refine zx_sub [] rfl ?_
      exact zj_Planner_ruleFault_222 E h
    refine zx_iconst E (0 : Int32) dd_Planner_ruleFault_226 (by decide) ?_
    refine zx_sub [] rfl ?_
    exact zj_Planner_ruleFault_227 E false h
  · refine zx_iload E 5 dd_Planner_ruleFault_232 rfl ?_
    refine zx_ifb_ne E (x := x7) 276 dd_Planner_ruleFault_234 rfl ?_ ?_
    rotate_left
    · refine zx_sub [] rfl ?_
      exact zj_Planner_ruleFault_276 E h
    refine zx_lload E 4 dd_Planner_ruleFault_237 rfl ?_
    refine zx_ldc2 E (-1 : Int64) zw_709 dd_Planner_ruleFault_239 ?_
    refine zx_lcmp_eq E 272 dd_Planner_ruleFault_242 dd_Planner_ruleFault_243 rfl ?_ ?_
    rotate_left
    · refine zx_sub [] rfl ?_
      exact zj_Planner_ruleFault_272 E h
    refine zx_lload E 4 dd_Planner_ruleFault_246 rfl ?_
    refine zx_ldc2 E (-2 : Int64) zw_710 dd_Planner_ruleFault_248 ?_
    refine zx_lcmp_eq E 272 dd_Planner_ruleFault_251 dd_Planner_ruleFault_252 rfl ?_ ?_
    rotate_left
    · refine zx_sub [] rfl ?_
      exact zj_Planner_ruleFault_272 E h
    refine zx_aload_n E 1 dd_Planner_ruleFault_255 rfl rfl ?_
    refine zx_getR E 1 0 zd_Planner_types zg_16 Nat.zero_lt_one (zr_Planner_types _) zw_273 dd_Planner_ruleFault_256 ?_
    refine zx_aload_n E 2 dd_Planner_ruleFault_259 rfl rfl ?_
    refine zx_getI E zd_Method_to zg_54 x1.isLt zw_156 dd_Planner_ruleFault_260 ?_
    refine zx_lload E 4 dd_Planner_ruleFault_263 rfl ?_
    refine zx_callV_i (T := zx_TTypes) E [.int (h.1 54 x1.val 1), .long x5] (fun rZ eZ => zt_Types_placeOf _ _ (h.1 54 x1.val 1) x5 h _ eZ) zg_1 Nat.zero_lt_one rfl zc_Planner_126 ⟨by decide, by decide⟩ (Nat.zero_le _) (Nat.zero_le _) rfl rfl (Nat.le_of_ble_eq_true rfl) dd_Planner_ruleFault_265 (fun r4 => ?_)
    refine zx_iconst E (-1 : Int32) dd_Planner_ruleFault_268 (by decide) ?_
    refine zx_icmp_eq E 276 dd_Planner_ruleFault_269 rfl ?_ ?_
    · refine zx_sub [] rfl ?_
      exact zj_Planner_ruleFault_272 E h
    refine zx_sub [] rfl ?_
    exact zj_Planner_ruleFault_276 E h
  · refine zx_sub [0] rfl ?_
    exact zj_Planner_ruleFault_289 E true h
  · refine zx_iload E 5 dd_Planner_ruleFault_282 rfl ?_
    refine zx_istore E (lv1 := [(8, .int (zx_b x7)), (0, zx_rV (zx_BK B) 16 0), (1, zx_rV (zx_BK B) 54 x1.val), (3, .int x3), (5, .long x5), (7, .int (zx_b x7))]) dd_Planner_ruleFault_284 (by decide) rfl ?_
    refine zx_goto E 289 dd_Planner_ruleFault_286 rfl ?_
    refine zx_sub [0] rfl ?_
    exact zj_Planner_ruleFault_289 E x7 h
set_option maxHeartbeats 4000000 in
set_option maxRecDepth 20000 in
theorem zj_Planner_ruleFault_79 {B : zx_B} (E : zx_E B zm_Planner_ruleFault)  (x1 : Fin 16) (x3 : Int32) (x4 : Int32) (x5 : Int64) (x7 : Bool) (x8 : Bool) (s0 : Int32) (h : zx_H) : zx_X B zm_Planner_ruleFault (zx_QM B (fun r => ((some (Value.int r.1) : Option Value), r.2))) (zs_Planner_ruleFault_J79  x1 x3 x4 x5 x7 x8 s0 h) 0 0 79 [(0, zx_rV (zx_BK B) 16 0), (1, zx_rV (zx_BK B) 54 x1.val), (3, .int x3), (4, .int x4), (5, .long x5), (7, .int (zx_b x7)), (8, .int (zx_b x8))] [.int s0] h := by
  unfold zs_Planner_ruleFault_J79
  refine zx_istore E (lv1 := [(9, .int s0), (0, zx_rV (zx_BK B) 16 0), (1, zx_rV (zx_BK B) 54 x1.val), (3, .int x3), (4, .int x4), (5, .long x5), (7, .int (zx_b x7)), (8, .int (zx_b x8))]) dd_Planner_ruleFault_79 (by decide) rfl ?_
  refine zx_iload E 7 dd_Planner_ruleFault_81 rfl ?_
  refine zx_iload E 6 dd_Planner_ruleFault_83 rfl ?_
  refine zx_icmp_ne E 104 dd_Planner_ruleFault_85 rfl ?_ ?_
  rotate_left
  · refine zx_iconst E (3 : Int32) dd_Planner_ruleFault_104 (by decide) ?_
    exact zx_iret E rfl rfl dd_Planner_ruleFault_105
  refine zx_aload_n E 1 dd_Planner_ruleFault_88 rfl rfl ?_
  refine zx_getR E 1 0 zd_Planner_types zg_16 Nat.zero_lt_one (zr_Planner_types _) zw_273 dd_Planner_ruleFault_89 ?_
  refine zx_iload E 0 dd_Planner_ruleFault_92 rfl ?_
  refine zx_iload E 4 dd_Planner_ruleFault_94 rfl ?_
  refine zx_i2l E dd_Planner_ruleFault_96 ?_
  refine zx_callV_i (T := zx_TTypes) E [.int s0, .long (x4.toInt64)] (fun rZ eZ => zt_Types_placeOf _ _ s0 (x4.toInt64) h _ eZ) zg_1 Nat.zero_lt_one rfl zc_Planner_126 ⟨by decide, by decide⟩ (Nat.zero_le _) (Nat.zero_le _) rfl rfl (Nat.le_of_ble_eq_true rfl) dd_Planner_ruleFault_97 (fun r1 => ?_)
  refine zx_iconst E (-1 : Int32) dd_Planner_ruleFault_100 (by decide) ?_
  refine zx_icmp_ne E 106 dd_Planner_ruleFault_101 rfl ?_ ?_
  · refine zx_iconst E (3 : Int32) dd_Planner_ruleFault_104 (by decide) ?_
    exact zx_iret E rfl rfl dd_Planner_ruleFault_105
  refine zx_sub [1, 2, 3, 5, 6] rfl ?_
  exact zj_Planner_ruleFault_106 E x1 x3 x5 x7 h
set_option maxHeartbeats 4000000 in
set_option maxRecDepth 20000 in
theorem zj_Planner_ruleFault_61 {B : zx_B} (E : zx_E B zm_Planner_ruleFault)  (x1 : Fin 16) (x3 : Int32) (x4 : Int32) (x5 : Int64) (x7 : Bool) (s0 : Bool) (h : zx_H) : zx_X B zm_Planner_ruleFault (zx_QM B (fun r => ((some (Value.int r.1) : Option Value), r.2))) (zs_Planner_ruleFault_J61  x1 x3 x4 x5 x7 s0 h) 0 0 61 [(0, zx_rV (zx_BK B) 16 0), (1, zx_rV (zx_BK B) 54 x1.val), (3, .int x3), (4, .int x4), (5, .long x5), (7, .int (zx_b x7))] [.int (zx_b s0)] h := by
  unfold zs_Planner_ruleFault_J61
  refine zx_istore E (lv1 := [(8, .int (zx_b s0)), (0, zx_rV (zx_BK B) 16 0), (1, zx_rV (zx_BK B) 54 x1.val), (3, .int x3), (4, .int x4), (5, .long x5), (7, .int (zx_b x7))]) dd_Planner_ruleFault_61 (by decide) rfl ?_
  refine zx_iload E 0 dd_Planner_ruleFault_63 rfl ?_
  refine zx_ifb_eq E (x := s0) 75 dd_Planner_ruleFault_65 rfl ?_ ?_
  rotate_left
  · refine zx_aload_n E 2 dd_Planner_ruleFault_75 rfl rfl ?_
    refine zx_getI E zd_Method_from zg_54 x1.isLt zw_152 dd_Planner_ruleFault_76 ?_
    refine zx_sub [1, 2, 3, 4, 5, 6, 0] rfl ?_
    exact zj_Planner_ruleFault_79 E x1 x3 x4 x5 x7 s0 (h.1 54 x1.val 0) h
  refine zx_aload_n E 2 dd_Planner_ruleFault_68 rfl rfl ?_
  refine zx_getI E zd_Method_to zg_54 x1.isLt zw_156 dd_Planner_ruleFault_69 ?_
  refine zx_goto E 79 dd_Planner_ruleFault_72 rfl ?_
  refine zx_sub [1, 2, 3, 4, 5, 6, 0] rfl ?_
  exact zj_Planner_ruleFault_79 E x1 x3 x4 x5 x7 s0 (h.1 54 x1.val 1) h
set_option maxHeartbeats 4000000 in
set_option maxRecDepth 20000 in
theorem zt_Planner_ruleFault (l : Launch) (K : zx_K) (a1 : Fin 16) (a2 : Int32) (h : zx_H) (r : (Int32 × zx_H)) (hf : zs_Planner_ruleFault a1 a2 h = some r) : zx_MR l zm_Planner_ruleFault zy_Planner_ruleFault K [zx_rV K 16 0, zx_rV K 54 a1.val, .int a2] h (some (.int r.1)) r.2 := by
  refine zx_ofM (M := zm_Planner_ruleFault) (y := zy_Planner_ruleFault) (r := r) (as := [zx_rV K 16 0, zx_rV K 54 a1.val, .int a2]) (ρ := (fun r => ((some (Value.int r.1) : Option Value), r.2))) (by decide) rfl hf (Nat.le_of_ble_eq_true rfl) ?_
  intro B hl hK E
  subst hK
  subst hl
  show zx_X B zm_Planner_ruleFault _ _ 0 0 0 [(0, zx_rV (zx_BK B) 16 0), (1, zx_rV (zx_BK B) 54 a1.val), (2, .int a2)] [] h
  unfold zs_Planner_ruleFault
  refine zx_aload_n E 1 dd_Planner_ruleFault_0 rfl rfl ?_
  refine zx_getR E 55 a1.val zd_Method_kinds zg_54 a1.isLt (zr_Method_kinds _) zw_165 dd_Planner_ruleFault_1 ?_
  refine zx_iload_n E 2 dd_Planner_ruleFault_4 rfl rfl ?_
  refine zx_iald E zg_55 a1.isLt dd_Planner_ruleFault_5 ?_
  refine zx_leti (fun y1 => ?_)
  refine zx_istore_n E (lv1 := [(3, .int y1), (0, zx_rV (zx_BK B) 16 0), (1, zx_rV (zx_BK B) 54 a1.val), (2, .int a2)]) dd_Planner_ruleFault_6 rfl (by decide) rfl ?_
  refine zx_aload_n E 2 dd_Planner_ruleFault_7 rfl rfl ?_
  refine zx_getR E 56 a1.val zd_Method_targets zg_54 a1.isLt (zr_Method_targets _) zw_168 dd_Planner_ruleFault_8 ?_
  refine zx_iload_n E 3 dd_Planner_ruleFault_11 rfl rfl ?_
  refine zx_iald E zg_56 a1.isLt dd_Planner_ruleFault_12 ?_
  refine zx_leti (fun y2 => ?_)
  refine zx_istore E (lv1 := [(4, .int y2), (3, .int y1), (0, zx_rV (zx_BK B) 16 0), (1, zx_rV (zx_BK B) 54 a1.val), (2, .int a2)]) dd_Planner_ruleFault_13 (by decide) rfl ?_
  refine zx_aload_n E 3 dd_Planner_ruleFault_15 rfl rfl ?_
  refine zx_getR E 57 a1.val zd_Method_whats zg_54 a1.isLt (zr_Method_whats _) zw_170 dd_Planner_ruleFault_16 ?_
  refine zx_iload_n E 4 dd_Planner_ruleFault_19 rfl rfl ?_
  refine zx_lald E zg_57 a1.isLt dd_Planner_ruleFault_20 ?_
  refine zx_letl (fun y3 => ?_)
  refine zx_lstore E (lv1 := [(5, .long y3), (4, .int y2), (3, .int y1), (0, zx_rV (zx_BK B) 16 0), (1, zx_rV (zx_BK B) 54 a1.val), (2, .int a2)]) dd_Planner_ruleFault_21 (by decide) rfl ?_
  refine zx_aload_n E 3 dd_Planner_ruleFault_23 rfl rfl ?_
  refine zx_getR E 1 0 zd_Planner_types zg_16 Nat.zero_lt_one (zr_Planner_types _) zw_273 dd_Planner_ruleFault_24 ?_
  refine zx_aload_n E 4 dd_Planner_ruleFault_27 rfl rfl ?_
  refine zx_getI E zd_Method_to zg_54 a1.isLt zw_156 dd_Planner_ruleFault_28 ?_
  refine zx_callV_z (T := zx_TTypes) E [.int (h.1 54 a1.val 1)] (fun rZ eZ => zt_Types_isBean _ _ (h.1 54 a1.val 1) h _ eZ) zg_1 Nat.zero_lt_one rfl zc_Planner_88 ⟨by decide, by decide⟩ (Nat.zero_le _) (Nat.zero_le _) rfl rfl (Nat.le_of_ble_eq_true rfl) dd_Planner_ruleFault_31 (fun r4 => ?_)
  refine zx_istore E (lv1 := [(7, .int (zx_b r4)), (5, .long y3), (4, .int y2), (3, .int y1), (0, zx_rV (zx_BK B) 16 0), (1, zx_rV (zx_BK B) 54 a1.val), (2, .int a2)]) dd_Planner_ruleFault_34 (by decide) rfl ?_
  refine zx_iload_n E 3 dd_Planner_ruleFault_36 rfl rfl ?_
  refine zx_iconst E (5 : Int32) dd_Planner_ruleFault_37 (by decide) ?_
  refine zx_icmp_gt E 106 dd_Planner_ruleFault_38 rfl ?_ ?_
  rotate_left
  · refine zx_sub [4, 5, 3, 1, 0] rfl ?_
    exact zj_Planner_ruleFault_106 E a1 y1 y3 r4 h
  refine zx_aload_n E 5 dd_Planner_ruleFault_41 rfl rfl ?_
  refine zx_iload_n E 6 dd_Planner_ruleFault_42 rfl rfl ?_
  refine zx_callV_z (T := zx_TMethod) E [.int a2] (fun rZ eZ => zt_Method_repeats _ _ a1 a2 h _ eZ) zg_54 a1.isLt rfl zc_Planner_123 ⟨by decide, by decide⟩ (Nat.zero_le _) (Nat.zero_le _) rfl rfl (Nat.le_of_ble_eq_true rfl) dd_Planner_ruleFault_43 (fun r5 => ?_)
  refine zx_ifb_eq E (x := r5) 51 dd_Planner_ruleFault_46 rfl ?_ ?_
  · refine zx_iconst E (2 : Int32) dd_Planner_ruleFault_49 (by decide) ?_
    exact zx_iret E rfl rfl dd_Planner_ruleFault_50
  refine zx_iload_n E 3 dd_Planner_ruleFault_51 rfl rfl ?_
  refine zx_iconst E (5 : Int32) dd_Planner_ruleFault_52 (by decide) ?_
  refine zx_icmp_eq E 60 dd_Planner_ruleFault_53 rfl ?_ ?_
  rotate_left
  · refine zx_iconst E (0 : Int32) dd_Planner_ruleFault_60 (by decide) ?_
    refine zx_sub [4, 5, 3, 2, 1, 0] rfl ?_
    exact zj_Planner_ruleFault_61 E a1 y1 y2 y3 r4 false h
  refine zx_iconst E (1 : Int32) dd_Planner_ruleFault_56 (by decide) ?_
  refine zx_goto E 61 dd_Planner_ruleFault_57 rfl ?_
  refine zx_sub [4, 5, 3, 2, 1, 0] rfl ?_
  exact zj_Planner_ruleFault_61 E a1 y1 y2 y3 r4 true h
set_option maxHeartbeats 4000000 in
set_option maxRecDepth 20000 in
theorem zt_Planner_note (l : Launch) (K : zx_K) (a1 : Int32) (a2 : Int32) (h : zx_H) (r : zx_H) (hf : zs_Planner_note a1 a2 h = some r) : zx_MR l zm_Planner_note zy_Planner_note K [zx_rV K 16 0, .int a1, .int a2] h none r := by
  refine zx_ofM (M := zm_Planner_note) (y := zy_Planner_note) (r := r) (as := [zx_rV K 16 0, .int a1, .int a2]) (ρ := (fun r => ((none : Option Value), r))) (by decide) rfl hf (Nat.le_of_ble_eq_true rfl) ?_
  intro B hl hK E
  subst hK
  subst hl
  show zx_X B zm_Planner_note _ _ 0 0 0 [(0, zx_rV (zx_BK B) 16 0), (1, .int a1), (2, .int a2)] [] h
  unfold zs_Planner_note
  refine zx_iload_n E 1 dd_Planner_note_0 rfl rfl ?_
  refine zx_if_eq E 14 dd_Planner_note_1 rfl ?_ ?_
  rotate_left
  · exact zx_vret E rfl rfl dd_Planner_note_14
  refine zx_aload_n E 0 dd_Planner_note_4 rfl rfl ?_
  refine zx_iload_n E 1 dd_Planner_note_5 rfl rfl ?_
  refine zx_putI E zd_Planner_fault zp_Planner_fault zg_16 Nat.zero_lt_one rfl rfl zw_277 dd_Planner_note_6 ?_
  refine zx_letH (fun h1 => ?_)
  refine zx_aload_n E 0 dd_Planner_note_9 rfl rfl ?_
  refine zx_iload_n E 2 dd_Planner_note_10 rfl rfl ?_
  refine zx_putI E zd_Planner_faultPlace zp_Planner_faultPlace zg_16 Nat.zero_lt_one rfl rfl zw_281 dd_Planner_note_11 ?_
  refine zx_letH (fun h2 => ?_)
  exact zx_vret E rfl rfl dd_Planner_note_14
set_option maxHeartbeats 4000000 in
set_option maxRecDepth 20000 in
theorem zj_Ways_converts_42 {B : zx_B} (E : zx_E B zm_Ways_converts) (h : zx_H)   : zx_X B zm_Ways_converts (zx_QM B (fun r => ((some (Value.int (zx_b r)) : Option Value), h))) (zs_Ways_converts_J42 h  ) 0 0 42 [] [] h := by
  unfold zs_Ways_converts_J42
  refine zx_iconst E (1 : Int32) dd_Ways_converts_42 (by decide) ?_
  refine zx_goto E 47 dd_Ways_converts_43 rfl ?_
  exact zx_zret E true rfl rfl rfl dd_Ways_converts_47
set_option maxHeartbeats 4000000 in
set_option maxRecDepth 20000 in
theorem zj_Ways_converts_46 {B : zx_B} (E : zx_E B zm_Ways_converts) (h : zx_H)   : zx_X B zm_Ways_converts (zx_QM B (fun r => ((some (Value.int (zx_b r)) : Option Value), h))) (zs_Ways_converts_J46 h  ) 0 0 46 [] [] h := by
  unfold zs_Ways_converts_J46
  refine zx_iconst E (0 : Int32) dd_Ways_converts_46 (by decide) ?_
  exact zx_zret E false rfl rfl rfl dd_Ways_converts_47
set_option maxHeartbeats 4000000 in
set_option maxRecDepth 20000 in
theorem zj_Ways_converts_72 {B : zx_B} (E : zx_E B zm_Ways_converts) (h : zx_H)   : zx_X B zm_Ways_converts (zx_QM B (fun r => ((some (Value.int (zx_b r)) : Option Value), h))) (zs_Ways_converts_J72 h  ) 0 0 72 [] [] h := by
  unfold zs_Ways_converts_J72
  refine zx_iconst E (1 : Int32) dd_Ways_converts_72 (by decide) ?_
  refine zx_goto E 77 dd_Ways_converts_73 rfl ?_
  exact zx_zret E true rfl rfl rfl dd_Ways_converts_77
set_option maxHeartbeats 4000000 in
set_option maxRecDepth 20000 in
theorem zj_Ways_converts_102 {B : zx_B} (E : zx_E B zm_Ways_converts) (h : zx_H)   : zx_X B zm_Ways_converts (zx_QM B (fun r => ((some (Value.int (zx_b r)) : Option Value), h))) (zs_Ways_converts_J102 h  ) 0 0 102 [] [] h := by
  unfold zs_Ways_converts_J102
  refine zx_iconst E (1 : Int32) dd_Ways_converts_102 (by decide) ?_
  refine zx_goto E 107 dd_Ways_converts_103 rfl ?_
  exact zx_zret E true rfl rfl rfl dd_Ways_converts_107
set_option maxHeartbeats 4000000 in
set_option maxRecDepth 20000 in
theorem zj_Ways_converts_106 {B : zx_B} (E : zx_E B zm_Ways_converts) (h : zx_H)   : zx_X B zm_Ways_converts (zx_QM B (fun r => ((some (Value.int (zx_b r)) : Option Value), h))) (zs_Ways_converts_J106 h  ) 0 0 106 [] [] h := by
  unfold zs_Ways_converts_J106
  refine zx_iconst E (0 : Int32) dd_Ways_converts_106 (by decide) ?_
  exact zx_zret E false rfl rfl rfl dd_Ways_converts_107
set_option maxHeartbeats 4000000 in
set_option maxRecDepth 20000 in
theorem zj_Ways_converts_48 {B : zx_B} (E : zx_E B zm_Ways_converts) (h : zx_H)  (x1 : Int32) (x2 : Int32) : zx_X B zm_Ways_converts (zx_QM B (fun r => ((some (Value.int (zx_b r)) : Option Value), h))) (zs_Ways_converts_J48 h  x1 x2) 0 0 48 [(0, zx_rV (zx_BK B) 14 0), (1, .int x1), (2, .int x2)] [] h := by
  unfold zs_Ways_converts_J48
  refine zx_iload_n E 2 dd_Ways_converts_48 rfl rfl ?_
  refine zx_bipush E (14 : Int32) dd_Ways_converts_49 (by decide) ?_
  refine zx_icmp_ne E 78 dd_Ways_converts_51 rfl ?_ ?_
  · refine zx_iload_n E 1 dd_Ways_converts_54 rfl rfl ?_
    refine zx_callS_z E [.int x1] (fun rZ eZ => zt_Basics_isWhole _ _ x1 h _ eZ) zc_Ways_89 ⟨by decide, by decide⟩ (Nat.zero_le _) (Nat.zero_le _) rfl rfl (Nat.le_of_ble_eq_true rfl) dd_Ways_converts_55 (fun r1 => ?_)
    refine zx_ifb_ne E (x := r1) 72 dd_Ways_converts_58 rfl ?_ ?_
    rotate_left
    · refine zx_sub [] rfl ?_
      exact zj_Ways_converts_72 E h
    refine zx_aload_n E 0 dd_Ways_converts_61 rfl rfl ?_
    refine zx_getR E 1 0 zd_Ways_types zg_14 Nat.zero_lt_one (zr_Ways_types _) zw_255 dd_Ways_converts_62 ?_
    refine zx_iload_n E 1 dd_Ways_converts_65 rfl rfl ?_
    refine zx_callV_z (T := zx_TTypes) E [.int x1] (fun rZ eZ => zt_Types_isEnum _ _ x1 h _ eZ) zg_1 Nat.zero_lt_one rfl zc_Ways_92 ⟨by decide, by decide⟩ (Nat.zero_le _) (Nat.zero_le _) rfl rfl (Nat.le_of_ble_eq_true rfl) dd_Ways_converts_66 (fun r2 => ?_)
    refine zx_ifb_eq E (x := r2) 76 dd_Ways_converts_69 rfl ?_ ?_
    · refine zx_sub [] rfl ?_
      exact zj_Ways_converts_72 E h
    refine zx_iconst E (0 : Int32) dd_Ways_converts_76 (by decide) ?_
    exact zx_zret E false rfl rfl rfl dd_Ways_converts_77
  refine zx_iload_n E 1 dd_Ways_converts_78 rfl rfl ?_
  refine zx_bipush E (14 : Int32) dd_Ways_converts_79 (by decide) ?_
  refine zx_icmp_ne E 106 dd_Ways_converts_81 rfl ?_ ?_
  rotate_left
  · refine zx_sub [] rfl ?_
    exact zj_Ways_converts_106 E h
  refine zx_iload_n E 2 dd_Ways_converts_84 rfl rfl ?_
  refine zx_callS_z E [.int x2] (fun rZ eZ => zt_Basics_isWhole _ _ x2 h _ eZ) zc_Ways_89 ⟨by decide, by decide⟩ (Nat.zero_le _) (Nat.zero_le _) rfl rfl (Nat.le_of_ble_eq_true rfl) dd_Ways_converts_85 (fun r3 => ?_)
  refine zx_ifb_ne E (x := r3) 102 dd_Ways_converts_88 rfl ?_ ?_
  rotate_left
  · refine zx_sub [] rfl ?_
    exact zj_Ways_converts_102 E h
  refine zx_aload_n E 0 dd_Ways_converts_91 rfl rfl ?_
  refine zx_getR E 1 0 zd_Ways_types zg_14 Nat.zero_lt_one (zr_Ways_types _) zw_255 dd_Ways_converts_92 ?_
  refine zx_iload_n E 2 dd_Ways_converts_95 rfl rfl ?_
  refine zx_callV_z (T := zx_TTypes) E [.int x2] (fun rZ eZ => zt_Types_isEnum _ _ x2 h _ eZ) zg_1 Nat.zero_lt_one rfl zc_Ways_92 ⟨by decide, by decide⟩ (Nat.zero_le _) (Nat.zero_le _) rfl rfl (Nat.le_of_ble_eq_true rfl) dd_Ways_converts_96 (fun r4 => ?_)
  refine zx_ifb_eq E (x := r4) 106 dd_Ways_converts_99 rfl ?_ ?_
  · refine zx_sub [] rfl ?_
    exact zj_Ways_converts_102 E h
  refine zx_sub [] rfl ?_
  exact zj_Ways_converts_106 E h
set_option maxHeartbeats 4000000 in
set_option maxRecDepth 20000 in
theorem zt_Ways_converts (l : Launch) (K : zx_K) (a1 : Int32) (a2 : Int32) (h : zx_H) (r : Bool) (hf : zs_Ways_converts a1 a2 h = some r) : zx_MR l zm_Ways_converts zy_Ways_converts K [zx_rV K 14 0, .int a1, .int a2] h (some (.int (zx_b r))) h := by
  refine zx_ofM (M := zm_Ways_converts) (y := zy_Ways_converts) (r := r) (as := [zx_rV K 14 0, .int a1, .int a2]) (ρ := (fun r => ((some (Value.int (zx_b r)) : Option Value), h))) (by decide) rfl hf (Nat.le_of_ble_eq_true rfl) ?_
  intro B hl hK E
  subst hK
  subst hl
  show zx_X B zm_Ways_converts _ _ 0 0 0 [(0, zx_rV (zx_BK B) 14 0), (1, .int a1), (2, .int a2)] [] h
  unfold zs_Ways_converts
  refine zx_iload_n E 1 dd_Ways_converts_0 rfl rfl ?_
  refine zx_callS_z E [.int a1] (fun rZ eZ => zt_Basics_isBasic _ _ a1 h _ eZ) zc_Ways_81 ⟨by decide, by decide⟩ (Nat.zero_le _) (Nat.zero_le _) rfl rfl (Nat.le_of_ble_eq_true rfl) dd_Ways_converts_1 (fun r1 => ?_)
  refine zx_ifb_eq E (x := r1) 48 dd_Ways_converts_4 rfl ?_ ?_
  rotate_left
  · exact zj_Ways_converts_48 E h a1 a2
  refine zx_iload_n E 2 dd_Ways_converts_7 rfl rfl ?_
  refine zx_callS_z E [.int a2] (fun rZ eZ => zt_Basics_isBasic _ _ a2 h _ eZ) zc_Ways_81 ⟨by decide, by decide⟩ (Nat.zero_le _) (Nat.zero_le _) rfl rfl (Nat.le_of_ble_eq_true rfl) dd_Ways_converts_8 (fun r2 => ?_)
  refine zx_ifb_eq E (x := r2) 48 dd_Ways_converts_11 rfl ?_ ?_
  rotate_left
  · exact zj_Ways_converts_48 E h a1 a2
  refine zx_iload_n E 1 dd_Ways_converts_14 rfl rfl ?_
  refine zx_callS_i E [.int a1] (fun rZ eZ => zt_Basics_kindOf _ _ a1 h _ eZ) zc_Ways_86 ⟨by decide, by decide⟩ (Nat.zero_le _) (Nat.zero_le _) rfl rfl (Nat.le_of_ble_eq_true rfl) dd_Ways_converts_15 (fun r3 => ?_)
  refine zx_istore_n E (lv1 := [(3, .int r3), (0, zx_rV (zx_BK B) 14 0), (1, .int a1), (2, .int a2)]) dd_Ways_converts_18 rfl (by decide) rfl ?_
  refine zx_iload_n E 3 dd_Ways_converts_19 rfl rfl ?_
  refine zx_callS_i E [.int a2] (fun rZ eZ => zt_Basics_kindOf _ _ a2 h _ eZ) zc_Ways_86 ⟨by decide, by decide⟩ (Nat.zero_le _) (Nat.zero_le _) rfl rfl (Nat.le_of_ble_eq_true rfl) dd_Ways_converts_20 (fun r4 => ?_)
  refine zx_istore E (lv1 := [(4, .int r4), (3, .int r3), (0, zx_rV (zx_BK B) 14 0), (1, .int a1), (2, .int a2)]) dd_Ways_converts_23 (by decide) rfl ?_
  refine zx_iload_n E 1 dd_Ways_converts_25 rfl rfl ?_
  refine zx_iload E 0 dd_Ways_converts_26 rfl ?_
  refine zx_icmp_eq E 42 dd_Ways_converts_28 rfl ?_ ?_
  rotate_left
  · refine zx_sub [] rfl ?_
    exact zj_Ways_converts_42 E h
  refine zx_iload_n E 1 dd_Ways_converts_31 rfl rfl ?_
  refine zx_iconst E (5 : Int32) dd_Ways_converts_32 (by decide) ?_
  refine zx_icmp_eq E 46 dd_Ways_converts_33 rfl ?_ ?_
  rotate_left
  · refine zx_sub [] rfl ?_
    exact zj_Ways_converts_46 E h
  refine zx_iload E 0 dd_Ways_converts_36 rfl ?_
  refine zx_iconst E (5 : Int32) dd_Ways_converts_38 (by decide) ?_
  refine zx_icmp_eq E 46 dd_Ways_converts_39 rfl ?_ ?_
  · refine zx_sub [] rfl ?_
    exact zj_Ways_converts_42 E h
  refine zx_sub [] rfl ?_
  exact zj_Ways_converts_46 E h
set_option maxHeartbeats 4000000 in
set_option maxRecDepth 20000 in
theorem zj_Ways_functionWay_101 {B : zx_B} (E : zx_E B zm_Ways_functionWay) (h : zx_H) (k6 : (Int32 → Int32 → Bool → Int32 → Int32 → Option Int32)) (hk6 : ∀ (x1 : Int32) (x2 : Int32) (x3 : Bool) (x4 : Int32) (x5 : Int32), zx_X B zm_Ways_functionWay (zx_QM B (fun r => ((some (Value.int r) : Option Value), h))) (k6 x1 x2 x3 x4 x5) 0 0 6 [(0, zx_rV (zx_BK B) 14 0), (1, .int x1), (2, .int x2), (3, .int (zx_b x3)), (4, .int x4), (5, .int x5)] [] h) (x1 : Int32) (x2 : Int32) (x3 : Bool) (x4 : Int32) (x5 : Int32) : zx_X B zm_Ways_functionWay (zx_QM B (fun r => ((some (Value.int r) : Option Value), h))) (zs_Ways_functionWay_J101 h k6 x1 x2 x3 x4 x5) 0 0 101 [(0, zx_rV (zx_BK B) 14 0), (1, .int x1), (2, .int x2), (3, .int (zx_b x3)), (4, .int x4), (5, .int x5)] [] h := by
  unfold zs_Ways_functionWay_J101
  refine zx_iinc E 5 (x5 + (1 : Int32)) (lv1 := [(5, .int (x5 + (1 : Int32))), (0, zx_rV (zx_BK B) 14 0), (1, .int x1), (2, .int x2), (3, .int (zx_b x3)), (4, .int x4)]) dd_Ways_functionWay_101 rfl rfl (by decide) rfl ?_
  refine zx_goto E 6 dd_Ways_functionWay_104 rfl ?_
  refine zx_sub [1, 2, 3, 4, 5, 0] rfl ?_
  exact hk6 x1 x2 x3 x4 (x5 + (1 : Int32))
set_option maxHeartbeats 4000000 in
set_option maxRecDepth 20000 in
theorem zj_Ways_functionWay_61 {B : zx_B} (E : zx_E B zm_Ways_functionWay) (h : zx_H) (k6 : (Int32 → Int32 → Bool → Int32 → Int32 → Option Int32)) (hk6 : ∀ (x1 : Int32) (x2 : Int32) (x3 : Bool) (x4 : Int32) (x5 : Int32), zx_X B zm_Ways_functionWay (zx_QM B (fun r => ((some (Value.int r) : Option Value), h))) (k6 x1 x2 x3 x4 x5) 0 0 6 [(0, zx_rV (zx_BK B) 14 0), (1, .int x1), (2, .int x2), (3, .int (zx_b x3)), (4, .int x4), (5, .int x5)] [] h) (x1 : Int32) (x2 : Int32) (x3 : Bool) (x4 : Int32) (x5 : Int32) (x6 : Fin 8) (s0 : Bool) : zx_X B zm_Ways_functionWay (zx_QM B (fun r => ((some (Value.int r) : Option Value), h))) (zs_Ways_functionWay_J61 h k6 x1 x2 x3 x4 x5 x6 s0) 0 0 61 [(0, zx_rV (zx_BK B) 14 0), (1, .int x1), (2, .int x2), (3, .int (zx_b x3)), (4, .int x4), (5, .int x5), (6, zx_rV (zx_BK B) 53 x6.val)] [.int (zx_b s0)] h := by
  unfold zs_Ways_functionWay_J61
  refine zx_istore E (lv1 := [(7, .int (zx_b s0)), (0, zx_rV (zx_BK B) 14 0), (1, .int x1), (2, .int x2), (3, .int (zx_b x3)), (4, .int x4), (5, .int x5), (6, zx_rV (zx_BK B) 53 x6.val)]) dd_Ways_functionWay_61 (by decide) rfl ?_
  refine zx_aload E 7 dd_Ways_functionWay_63 rfl ?_
  refine zx_getI E zd_Function_named zg_53 x6.isLt zw_88 dd_Ways_functionWay_65 ?_
  refine zx_if_ne E 101 dd_Ways_functionWay_68 rfl ?_ ?_
  rotate_left
  · refine zx_sub [1, 2, 3, 4, 5, 6] rfl ?_
    exact zj_Ways_functionWay_101 E h k6 hk6 x1 x2 x3 x4 x5
  refine zx_aload E 7 dd_Ways_functionWay_71 rfl ?_
  refine zx_getI E zd_Function_to zg_53 x6.isLt zw_81 dd_Ways_functionWay_73 ?_
  refine zx_iload_n E 3 dd_Ways_functionWay_76 rfl rfl ?_
  refine zx_icmp_ne E 101 dd_Ways_functionWay_77 rfl ?_ ?_
  rotate_left
  · refine zx_sub [1, 2, 3, 4, 5, 6] rfl ?_
    exact zj_Ways_functionWay_101 E h k6 hk6 x1 x2 x3 x4 x5
  refine zx_iload E 0 dd_Ways_functionWay_80 rfl ?_
  refine zx_ifb_eq E (x := s0) 101 dd_Ways_functionWay_82 rfl ?_ ?_
  rotate_left
  · refine zx_sub [1, 2, 3, 4, 5, 6] rfl ?_
    exact zj_Ways_functionWay_101 E h k6 hk6 x1 x2 x3 x4 x5
  refine zx_iload E 5 dd_Ways_functionWay_85 rfl ?_
  refine zx_iconst E (-1 : Int32) dd_Ways_functionWay_87 (by decide) ?_
  refine zx_icmp_eq E 94 dd_Ways_functionWay_88 rfl ?_ ?_
  · refine zx_bipush E (-2 : Int32) dd_Ways_functionWay_91 (by decide) ?_
    exact zx_iret E rfl rfl dd_Ways_functionWay_93
  refine zx_bipush E (16 : Int32) dd_Ways_functionWay_94 (by decide) ?_
  refine zx_iload E 6 dd_Ways_functionWay_96 rfl ?_
  refine zx_iadd E dd_Ways_functionWay_98 ?_
  refine zx_leti (fun y1 => ?_)
  refine zx_istore E (lv1 := [(4, .int y1), (7, .int (zx_b s0)), (0, zx_rV (zx_BK B) 14 0), (1, .int x1), (2, .int x2), (3, .int (zx_b x3)), (5, .int x5), (6, zx_rV (zx_BK B) 53 x6.val)]) dd_Ways_functionWay_99 (by decide) rfl ?_
  refine zx_sub [2, 3, 4, 5, 0, 6] rfl ?_
  exact zj_Ways_functionWay_101 E h k6 hk6 x1 x2 x3 y1 x5
set_option maxHeartbeats 4000000 in
set_option maxRecDepth 20000 in
theorem zb_Ways_functionWay_6 {B : zx_B} (E : zx_E B zm_Ways_functionWay) (h : zx_H)  (k6 : (Int32 → Int32 → Bool → Int32 → Int32 → Option Int32)) (hk6 : ∀ (x1 : Int32) (x2 : Int32) (x3 : Bool) (x4 : Int32) (x5 : Int32), zx_X B zm_Ways_functionWay (zx_QM B (fun r => ((some (Value.int r) : Option Value), h))) (k6 x1 x2 x3 x4 x5) 0 0 6 [(0, zx_rV (zx_BK B) 14 0), (1, .int x1), (2, .int x2), (3, .int (zx_b x3)), (4, .int x4), (5, .int x5)] [] h) (x1 : Int32) (x2 : Int32) (x3 : Bool) (x4 : Int32) (x5 : Int32) : zx_X B zm_Ways_functionWay (zx_QM B (fun r => ((some (Value.int r) : Option Value), h))) (zs_Ways_functionWay_L6_body h  k6 x1 x2 x3 x4 x5) 0 0 6 [(0, zx_rV (zx_BK B) 14 0), (1, .int x1), (2, .int x2), (3, .int (zx_b x3)), (4, .int x4), (5, .int x5)] [] h := by
  unfold zs_Ways_functionWay_L6_body
  refine zx_iload E 5 dd_Ways_functionWay_6 rfl ?_
  refine zx_aload_n E 0 dd_Ways_functionWay_8 rfl rfl ?_
  refine zx_getR E 11 0 zd_Ways_model zg_14 Nat.zero_lt_one (zr_Ways_model _) zw_256 dd_Ways_functionWay_9 ?_
  refine zx_getI E zd_Model_functionCount zg_11 Nat.zero_lt_one zw_212 dd_Ways_functionWay_12 ?_
  refine zx_icmp_ge E 107 dd_Ways_functionWay_15 rfl ?_ ?_
  rotate_left
  · refine zx_iload E 4 dd_Ways_functionWay_107 rfl ?_
    exact zx_iret E rfl rfl dd_Ways_functionWay_109
  refine zx_aload_n E 0 dd_Ways_functionWay_18 rfl rfl ?_
  refine zx_getR E 11 0 zd_Ways_model zg_14 Nat.zero_lt_one (zr_Ways_model _) zw_256 dd_Ways_functionWay_19 ?_
  refine zx_getR E 12 0 zd_Model_functions zg_11 Nat.zero_lt_one (zr_Model_functions _) zw_203 dd_Ways_functionWay_22 ?_
  refine zx_iload E 5 dd_Ways_functionWay_25 rfl ?_
  refine zx_aaldF E dd_Ways_functionWay_27 (fun j1 => ?_)
  refine zx_astore E (lv1 := [(6, zx_rV (zx_BK B) 53 j1.val), (0, zx_rV (zx_BK B) 14 0), (1, .int x1), (2, .int x2), (3, .int (zx_b x3)), (4, .int x4), (5, .int x5)]) dd_Ways_functionWay_28 (by decide) rfl ?_
  refine zx_iload_n E 4 dd_Ways_functionWay_30 rfl rfl ?_
  refine zx_ifb_eq E (x := x3) 47 dd_Ways_functionWay_31 rfl ?_ ?_
  · refine zx_aload_n E 1 dd_Ways_functionWay_34 rfl rfl ?_
    refine zx_iload_n E 2 dd_Ways_functionWay_35 rfl rfl ?_
    refine zx_aload E 0 dd_Ways_functionWay_36 rfl ?_
    refine zx_getI E zd_Function_from zg_53 j1.isLt zw_77 dd_Ways_functionWay_38 ?_
    refine zx_callV_z (T := zx_TWays) E [.int x1, .int (h.1 53 j1.val 0)] (fun rZ eZ => zt_Ways_converts _ _ x1 (h.1 53 j1.val 0) h _ eZ) zg_14 Nat.zero_lt_one rfl zc_Ways_37 ⟨by decide, by decide⟩ (Nat.zero_le _) (Nat.zero_le _) rfl rfl (Nat.le_of_ble_eq_true rfl) dd_Ways_functionWay_41 (fun r2 => ?_)
    refine zx_goto E 61 dd_Ways_functionWay_44 rfl ?_
    refine zx_sub [1, 2, 3, 4, 5, 6, 0] rfl ?_
    exact zj_Ways_functionWay_61 E h k6 hk6 x1 x2 x3 x4 x5 j1 r2
  refine zx_iload_n E 2 dd_Ways_functionWay_47 rfl rfl ?_
  refine zx_aload E 0 dd_Ways_functionWay_48 rfl ?_
  refine zx_getI E zd_Function_from zg_53 j1.isLt zw_77 dd_Ways_functionWay_50 ?_
  refine zx_icmp_ne E 60 dd_Ways_functionWay_53 rfl ?_ ?_
  rotate_left
  · refine zx_iconst E (0 : Int32) dd_Ways_functionWay_60 (by decide) ?_
    refine zx_sub [1, 2, 3, 4, 5, 6, 0] rfl ?_
    exact zj_Ways_functionWay_61 E h k6 hk6 x1 x2 x3 x4 x5 j1 false
  refine zx_iconst E (1 : Int32) dd_Ways_functionWay_56 (by decide) ?_
  refine zx_goto E 61 dd_Ways_functionWay_57 rfl ?_
  refine zx_sub [1, 2, 3, 4, 5, 6, 0] rfl ?_
  exact zj_Ways_functionWay_61 E h k6 hk6 x1 x2 x3 x4 x5 j1 true
theorem zj_Ways_functionWay_6 {B : zx_B} (E : zx_E B zm_Ways_functionWay) (h : zx_H)  : ∀ (x1 : Int32) (x2 : Int32) (x3 : Bool) (x4 : Int32) (x5 : Int32), zx_X B zm_Ways_functionWay (zx_QM B (fun r => ((some (Value.int r) : Option Value), h))) (zs_Ways_functionWay_L6 h  x1 x2 x3 x4 x5) 0 0 6 [(0, zx_rV (zx_BK B) 14 0), (1, .int x1), (2, .int x2), (3, .int (zx_b x3)), (4, .int x4), (5, .int x5)] [] h := by
  unfold zs_Ways_functionWay_L6
  generalize zx_fuel = n
  induction n with
  | zero => intros; exact zx_non
  | succ n ih => intro x1 x2 x3 x4 x5; exact zb_Ways_functionWay_6 E h  _ ih x1 x2 x3 x4 x5
set_option maxHeartbeats 4000000 in
set_option maxRecDepth 20000 in
theorem zt_Ways_functionWay (l : Launch) (K : zx_K) (a1 : Int32) (a2 : Int32) (a3 : Bool) (h : zx_H) (r : Int32) (hf : zs_Ways_functionWay a1 a2 a3 h = some r) : zx_MR l zm_Ways_functionWay zy_Ways_functionWay K [zx_rV K 14 0, .int a1, .int a2, .int (zx_b a3)] h (some (.int r)) h := by
  refine zx_ofM (M := zm_Ways_functionWay) (y := zy_Ways_functionWay) (r := r) (as := [zx_rV K 14 0, .int a1, .int a2, .int (zx_b a3)]) (ρ := (fun r => ((some (Value.int r) : Option Value), h))) (by decide) rfl hf (Nat.le_of_ble_eq_true rfl) ?_
  intro B hl hK E
  subst hK
  subst hl
  show zx_X B zm_Ways_functionWay _ _ 0 0 0 [(0, zx_rV (zx_BK B) 14 0), (1, .int a1), (2, .int a2), (3, .int (zx_b a3))] [] h
  unfold zs_Ways_functionWay
  refine zx_iconst E (-1 : Int32) dd_Ways_functionWay_0 (by decide) ?_
  refine zx_istore E (lv1 := [(4, .int (-1 : Int32)), (0, zx_rV (zx_BK B) 14 0), (1, .int a1), (2, .int a2), (3, .int (zx_b a3))]) dd_Ways_functionWay_1 (by decide) rfl ?_
  refine zx_iconst E (0 : Int32) dd_Ways_functionWay_3 (by decide) ?_
  refine zx_istore E (lv1 := [(5, .int (0 : Int32)), (4, .int (-1 : Int32)), (0, zx_rV (zx_BK B) 14 0), (1, .int a1), (2, .int a2), (3, .int (zx_b a3))]) dd_Ways_functionWay_4 (by decide) rfl ?_
  refine zx_sub [2, 3, 4, 5, 1, 0] rfl ?_
  exact zj_Ways_functionWay_6 E h a1 a2 a3 (-1 : Int32) (0 : Int32)
set_option maxHeartbeats 4000000 in
set_option maxRecDepth 20000 in
theorem zj_Ways_methodWay_65 {B : zx_B} (E : zx_E B zm_Ways_methodWay) (h : zx_H) (k5 : (Int32 → Int32 → Int32 → Int32 → Option Int32)) (hk5 : ∀ (x1 : Int32) (x2 : Int32) (x3 : Int32) (x4 : Int32), zx_X B zm_Ways_methodWay (zx_QM B (fun r => ((some (Value.int r) : Option Value), h))) (k5 x1 x2 x3 x4) 0 0 5 [(0, zx_rV (zx_BK B) 14 0), (1, .int x1), (2, .int x2), (3, .int x3), (4, .int x4)] [] h) (x1 : Int32) (x2 : Int32) (x3 : Int32) (x4 : Int32) : zx_X B zm_Ways_methodWay (zx_QM B (fun r => ((some (Value.int r) : Option Value), h))) (zs_Ways_methodWay_J65 h k5 x1 x2 x3 x4) 0 0 65 [(0, zx_rV (zx_BK B) 14 0), (1, .int x1), (2, .int x2), (3, .int x3), (4, .int x4)] [] h := by
  unfold zs_Ways_methodWay_J65
  refine zx_iinc E 4 (x4 + (1 : Int32)) (lv1 := [(4, .int (x4 + (1 : Int32))), (0, zx_rV (zx_BK B) 14 0), (1, .int x1), (2, .int x2), (3, .int x3)]) dd_Ways_methodWay_65 rfl rfl (by decide) rfl ?_
  refine zx_goto E 5 dd_Ways_methodWay_68 rfl ?_
  refine zx_sub [1, 2, 3, 4, 0] rfl ?_
  exact hk5 x1 x2 x3 (x4 + (1 : Int32))
set_option maxHeartbeats 4000000 in
set_option maxRecDepth 20000 in
theorem zb_Ways_methodWay_5 {B : zx_B} (E : zx_E B zm_Ways_methodWay) (h : zx_H)  (k5 : (Int32 → Int32 → Int32 → Int32 → Option Int32)) (hk5 : ∀ (x1 : Int32) (x2 : Int32) (x3 : Int32) (x4 : Int32), zx_X B zm_Ways_methodWay (zx_QM B (fun r => ((some (Value.int r) : Option Value), h))) (k5 x1 x2 x3 x4) 0 0 5 [(0, zx_rV (zx_BK B) 14 0), (1, .int x1), (2, .int x2), (3, .int x3), (4, .int x4)] [] h) (x1 : Int32) (x2 : Int32) (x3 : Int32) (x4 : Int32) : zx_X B zm_Ways_methodWay (zx_QM B (fun r => ((some (Value.int r) : Option Value), h))) (zs_Ways_methodWay_L5_body h  k5 x1 x2 x3 x4) 0 0 5 [(0, zx_rV (zx_BK B) 14 0), (1, .int x1), (2, .int x2), (3, .int x3), (4, .int x4)] [] h := by
  unfold zs_Ways_methodWay_L5_body
  refine zx_iload E 4 dd_Ways_methodWay_5 rfl ?_
  refine zx_aload_n E 0 dd_Ways_methodWay_7 rfl rfl ?_
  refine zx_getR E 11 0 zd_Ways_model zg_14 Nat.zero_lt_one (zr_Ways_model _) zw_256 dd_Ways_methodWay_8 ?_
  refine zx_getI E zd_Model_methodCount zg_11 Nat.zero_lt_one zw_216 dd_Ways_methodWay_11 ?_
  refine zx_icmp_ge E 71 dd_Ways_methodWay_14 rfl ?_ ?_
  rotate_left
  · refine zx_iload_n E 3 dd_Ways_methodWay_71 rfl rfl ?_
    exact zx_iret E rfl rfl dd_Ways_methodWay_72
  refine zx_aload_n E 0 dd_Ways_methodWay_17 rfl rfl ?_
  refine zx_getR E 11 0 zd_Ways_model zg_14 Nat.zero_lt_one (zr_Ways_model _) zw_256 dd_Ways_methodWay_18 ?_
  refine zx_getR E 13 0 zd_Model_methods zg_11 Nat.zero_lt_one (zr_Model_methods _) zw_209 dd_Ways_methodWay_21 ?_
  refine zx_iload E 4 dd_Ways_methodWay_24 rfl ?_
  refine zx_aaldM E dd_Ways_methodWay_26 (fun j1 => ?_)
  refine zx_getI E zd_Method_from zg_54 j1.isLt zw_154 dd_Ways_methodWay_27 ?_
  refine zx_iload_n E 1 dd_Ways_methodWay_30 rfl rfl ?_
  refine zx_icmp_ne E 65 dd_Ways_methodWay_31 rfl ?_ ?_
  rotate_left
  · exact zj_Ways_methodWay_65 E h k5 hk5 x1 x2 x3 x4
  refine zx_aload_n E 0 dd_Ways_methodWay_34 rfl rfl ?_
  refine zx_getR E 11 0 zd_Ways_model zg_14 Nat.zero_lt_one (zr_Ways_model _) zw_256 dd_Ways_methodWay_35 ?_
  refine zx_getR E 13 0 zd_Model_methods zg_11 Nat.zero_lt_one (zr_Model_methods _) zw_209 dd_Ways_methodWay_38 ?_
  refine zx_iload E 4 dd_Ways_methodWay_41 rfl ?_
  refine zx_aaldM E dd_Ways_methodWay_43 (fun j2 => ?_)
  refine zx_getI E zd_Method_to zg_54 j2.isLt zw_158 dd_Ways_methodWay_44 ?_
  refine zx_iload_n E 2 dd_Ways_methodWay_47 rfl rfl ?_
  refine zx_icmp_ne E 65 dd_Ways_methodWay_48 rfl ?_ ?_
  rotate_left
  · exact zj_Ways_methodWay_65 E h k5 hk5 x1 x2 x3 x4
  refine zx_iload_n E 3 dd_Ways_methodWay_51 rfl rfl ?_
  refine zx_iconst E (-1 : Int32) dd_Ways_methodWay_52 (by decide) ?_
  refine zx_icmp_eq E 59 dd_Ways_methodWay_53 rfl ?_ ?_
  · refine zx_bipush E (-2 : Int32) dd_Ways_methodWay_56 (by decide) ?_
    exact zx_iret E rfl rfl dd_Ways_methodWay_58
  refine zx_bipush E (32 : Int32) dd_Ways_methodWay_59 (by decide) ?_
  refine zx_iload E 4 dd_Ways_methodWay_61 rfl ?_
  refine zx_iadd E dd_Ways_methodWay_63 ?_
  refine zx_leti (fun y3 => ?_)
  refine zx_istore_n E (lv1 := [(3, .int y3), (0, zx_rV (zx_BK B) 14 0), (1, .int x1), (2, .int x2), (4, .int x4)]) dd_Ways_methodWay_64 rfl (by decide) rfl ?_
  refine zx_sub [1, 2, 3, 0, 4] rfl ?_
  exact zj_Ways_methodWay_65 E h k5 hk5 x1 x2 y3 x4
theorem zj_Ways_methodWay_5 {B : zx_B} (E : zx_E B zm_Ways_methodWay) (h : zx_H)  : ∀ (x1 : Int32) (x2 : Int32) (x3 : Int32) (x4 : Int32), zx_X B zm_Ways_methodWay (zx_QM B (fun r => ((some (Value.int r) : Option Value), h))) (zs_Ways_methodWay_L5 h  x1 x2 x3 x4) 0 0 5 [(0, zx_rV (zx_BK B) 14 0), (1, .int x1), (2, .int x2), (3, .int x3), (4, .int x4)] [] h := by
  unfold zs_Ways_methodWay_L5
  generalize zx_fuel = n
  induction n with
  | zero => intros; exact zx_non
  | succ n ih => intro x1 x2 x3 x4; exact zb_Ways_methodWay_5 E h  _ ih x1 x2 x3 x4
set_option maxHeartbeats 4000000 in
set_option maxRecDepth 20000 in
theorem zt_Ways_methodWay (l : Launch) (K : zx_K) (a1 : Int32) (a2 : Int32) (h : zx_H) (r : Int32) (hf : zs_Ways_methodWay a1 a2 h = some r) : zx_MR l zm_Ways_methodWay zy_Ways_methodWay K [zx_rV K 14 0, .int a1, .int a2] h (some (.int r)) h := by
  refine zx_ofM (M := zm_Ways_methodWay) (y := zy_Ways_methodWay) (r := r) (as := [zx_rV K 14 0, .int a1, .int a2]) (ρ := (fun r => ((some (Value.int r) : Option Value), h))) (by decide) rfl hf (Nat.le_of_ble_eq_true rfl) ?_
  intro B hl hK E
  subst hK
  subst hl
  show zx_X B zm_Ways_methodWay _ _ 0 0 0 [(0, zx_rV (zx_BK B) 14 0), (1, .int a1), (2, .int a2)] [] h
  unfold zs_Ways_methodWay
  refine zx_iconst E (-1 : Int32) dd_Ways_methodWay_0 (by decide) ?_
  refine zx_istore_n E (lv1 := [(3, .int (-1 : Int32)), (0, zx_rV (zx_BK B) 14 0), (1, .int a1), (2, .int a2)]) dd_Ways_methodWay_1 rfl (by decide) rfl ?_
  refine zx_iconst E (0 : Int32) dd_Ways_methodWay_2 (by decide) ?_
  refine zx_istore E (lv1 := [(4, .int (0 : Int32)), (3, .int (-1 : Int32)), (0, zx_rV (zx_BK B) 14 0), (1, .int a1), (2, .int a2)]) dd_Ways_methodWay_3 (by decide) rfl ?_
  refine zx_sub [2, 3, 4, 1, 0] rfl ?_
  exact zj_Ways_methodWay_5 E h a1 a2 (-1 : Int32) (0 : Int32)
set_option maxHeartbeats 4000000 in
set_option maxRecDepth 20000 in
theorem zj_Ways_find_199 {B : zx_B} (E : zx_E B zm_Ways_find)  (x6 : Int32) (h : zx_H) : zx_X B zm_Ways_find (zx_QM B (fun r => ((some (Value.int r.1) : Option Value), r.2))) (zs_Ways_find_J199  x6 h) 0 0 199 [(6, .int x6)] [] h := by
  unfold zs_Ways_find_J199
  refine zx_iload E 0 dd_Ways_find_199 rfl ?_
  refine zx_goto E 206 dd_Ways_find_201 rfl ?_
  exact zx_iret E rfl rfl dd_Ways_find_206
set_option maxHeartbeats 4000000 in
set_option maxRecDepth 20000 in
theorem zj_Ways_find_184 {B : zx_B} (E : zx_E B zm_Ways_find) (k8 : (Int32 → Int32 → Int32 → zx_H → Option (Int32 × zx_H))) (hk8 : ∀ (x3 : Int32) (x4 : Int32) (x5 : Int32) (h : zx_H), zx_X B zm_Ways_find (zx_QM B (fun r => ((some (Value.int r.1) : Option Value), r.2))) (k8 x3 x4 x5 h) 0 0 8 [(0, zx_rV (zx_BK B) 14 0), (3, .int x3), (4, .int x4), (5, .int x5)] [] h) (x3 : Int32) (x4 : Int32) (x5 : Int32) (x6 : Int32) (x7 : Bool) (h : zx_H) : zx_X B zm_Ways_find (zx_QM B (fun r => ((some (Value.int r.1) : Option Value), r.2))) (zs_Ways_find_J184 k8 x3 x4 x5 x6 x7 h) 0 0 184 [(0, zx_rV (zx_BK B) 14 0), (3, .int x3), (4, .int x4), (5, .int x5), (6, .int x6), (7, .int (zx_b x7))] [] h := by
  unfold zs_Ways_find_J184
  refine zx_iload E 5 dd_Ways_find_184 rfl ?_
  refine zx_ifb_ne E (x := x7) 207 dd_Ways_find_186 rfl ?_ ?_
  · refine zx_iload E 3 dd_Ways_find_189 rfl ?_
    refine zx_if_eq E 199 dd_Ways_find_191 rfl ?_ ?_
    rotate_left
    · refine zx_sub [4] rfl ?_
      exact zj_Ways_find_199 E x6 h
    refine zx_iload E 4 dd_Ways_find_194 rfl ?_
    refine zx_if_ge E 204 dd_Ways_find_196 rfl ?_ ?_
    · refine zx_sub [4] rfl ?_
      exact zj_Ways_find_199 E x6 h
    refine zx_bipush E (64 : Int32) dd_Ways_find_204 (by decide) ?_
    exact zx_iret E rfl rfl dd_Ways_find_206
  refine zx_aload_n E 0 dd_Ways_find_207 rfl rfl ?_
  refine zx_getR E 1 0 zd_Ways_types zg_14 Nat.zero_lt_one (zr_Ways_types _) zw_255 dd_Ways_find_208 ?_
  refine zx_iload_n E 1 dd_Ways_find_211 rfl rfl ?_
  refine zx_callV_i (T := zx_TTypes) E [.int x3] (fun rZ eZ => zt_Types_element _ _ x3 h _ eZ) zg_1 Nat.zero_lt_one rfl zc_Ways_44 ⟨by decide, by decide⟩ (Nat.zero_le _) (Nat.zero_le _) rfl rfl (Nat.le_of_ble_eq_true rfl) dd_Ways_find_212 (fun r1 => ?_)
  refine zx_istore_n E (lv1 := [(3, .int r1), (0, zx_rV (zx_BK B) 14 0), (4, .int x4), (5, .int x5), (6, .int x6), (7, .int (zx_b x7))]) dd_Ways_find_215 rfl (by decide) rfl ?_
  refine zx_aload_n E 1 dd_Ways_find_216 rfl rfl ?_
  refine zx_getR E 1 0 zd_Ways_types zg_14 Nat.zero_lt_one (zr_Ways_types _) zw_255 dd_Ways_find_217 ?_
  refine zx_iload E 2 dd_Ways_find_220 rfl ?_
  refine zx_callV_i (T := zx_TTypes) E [.int x4] (fun rZ eZ => zt_Types_element _ _ x4 h _ eZ) zg_1 Nat.zero_lt_one rfl zc_Ways_44 ⟨by decide, by decide⟩ (Nat.zero_le _) (Nat.zero_le _) rfl rfl (Nat.le_of_ble_eq_true rfl) dd_Ways_find_222 (fun r2 => ?_)
  refine zx_istore E (lv1 := [(4, .int r2), (3, .int r1), (0, zx_rV (zx_BK B) 14 0), (5, .int x5), (6, .int x6), (7, .int (zx_b x7))]) dd_Ways_find_225 (by decide) rfl ?_
  refine zx_iinc E 3 (x5 + (1 : Int32)) (lv1 := [(5, .int (x5 + (1 : Int32))), (4, .int r2), (3, .int r1), (0, zx_rV (zx_BK B) 14 0), (6, .int x6), (7, .int (zx_b x7))]) dd_Ways_find_227 rfl rfl (by decide) rfl ?_
  refine zx_goto E 8 dd_Ways_find_230 rfl ?_
  refine zx_sub [3, 2, 1, 0] rfl ?_
  exact hk8 r1 r2 (x5 + (1 : Int32)) h
set_option maxHeartbeats 4000000 in
set_option maxRecDepth 20000 in
theorem zj_Ways_find_183 {B : zx_B} (E : zx_E B zm_Ways_find) (k8 : (Int32 → Int32 → Int32 → zx_H → Option (Int32 × zx_H))) (hk8 : ∀ (x3 : Int32) (x4 : Int32) (x5 : Int32) (h : zx_H), zx_X B zm_Ways_find (zx_QM B (fun r => ((some (Value.int r.1) : Option Value), r.2))) (k8 x3 x4 x5 h) 0 0 8 [(0, zx_rV (zx_BK B) 14 0), (3, .int x3), (4, .int x4), (5, .int x5)] [] h) (x3 : Int32) (x4 : Int32) (x5 : Int32) (x6 : Int32) (x7 : Bool) (s1 : Int32) (s2 : Int32) (h : zx_H) : zx_X B zm_Ways_find (zx_QM B (fun r => ((some (Value.int r.1) : Option Value), r.2))) (zs_Ways_find_J183 k8 x3 x4 x5 x6 x7 s1 s2 h) 0 0 183 [(0, zx_rV (zx_BK B) 14 0), (3, .int x3), (4, .int x4), (5, .int x5), (6, .int x6), (7, .int (zx_b x7))] [.int s2, .int s1, zx_rV (zx_BK B) 15 0] h := by
  unfold zs_Ways_find_J183
  refine zx_iast E zg_15 Nat.zero_lt_one dd_Ways_find_183 ?_
  refine zx_letH (fun h1 => ?_)
  exact zj_Ways_find_184 E k8 hk8 x3 x4 x5 x6 x7 h1
set_option maxHeartbeats 4000000 in
set_option maxRecDepth 20000 in
theorem zj_Ways_find_135 {B : zx_B} (E : zx_E B zm_Ways_find) (k8 : (Int32 → Int32 → Int32 → zx_H → Option (Int32 × zx_H))) (hk8 : ∀ (x3 : Int32) (x4 : Int32) (x5 : Int32) (h : zx_H), zx_X B zm_Ways_find (zx_QM B (fun r => ((some (Value.int r.1) : Option Value), r.2))) (k8 x3 x4 x5 h) 0 0 8 [(0, zx_rV (zx_BK B) 14 0), (3, .int x3), (4, .int x4), (5, .int x5)] [] h) (x3 : Int32) (x4 : Int32) (x5 : Int32) (x6 : Int32) (s0 : Bool) (h : zx_H) : zx_X B zm_Ways_find (zx_QM B (fun r => ((some (Value.int r.1) : Option Value), r.2))) (zs_Ways_find_J135 k8 x3 x4 x5 x6 s0 h) 0 0 135 [(0, zx_rV (zx_BK B) 14 0), (3, .int x3), (4, .int x4), (5, .int x5), (6, .int x6)] [.int (zx_b s0)] h := by
  unfold zs_Ways_find_J135
  refine zx_istore E (lv1 := [(7, .int (zx_b s0)), (0, zx_rV (zx_BK B) 14 0), (3, .int x3), (4, .int x4), (5, .int x5), (6, .int x6)]) dd_Ways_find_135 (by decide) rfl ?_
  refine zx_aload_n E 1 dd_Ways_find_137 rfl rfl ?_
  refine zx_getR E 1 0 zd_Ways_types zg_14 Nat.zero_lt_one (zr_Ways_types _) zw_255 dd_Ways_find_138 ?_
  refine zx_iload_n E 2 dd_Ways_find_141 rfl rfl ?_
  refine zx_callV_z (T := zx_TTypes) E [.int x3] (fun rZ eZ => zt_Types_exists _ _ x3 h _ eZ) zg_1 Nat.zero_lt_one rfl zc_Ways_23 ⟨by decide, by decide⟩ (Nat.zero_le _) (Nat.zero_le _) rfl rfl (Nat.le_of_ble_eq_true rfl) dd_Ways_find_142 (fun r1 => ?_)
  refine zx_ifb_eq E (x := r1) 184 dd_Ways_find_145 rfl ?_ ?_
  rotate_left
  · refine zx_sub [1, 2, 3, 4, 5, 0] rfl ?_
    exact zj_Ways_find_184 E k8 hk8 x3 x4 x5 x6 s0 h
  refine zx_aload_n E 1 dd_Ways_find_148 rfl rfl ?_
  refine zx_getR E 1 0 zd_Ways_types zg_14 Nat.zero_lt_one (zr_Ways_types _) zw_255 dd_Ways_find_149 ?_
  refine zx_iload E 3 dd_Ways_find_152 rfl ?_
  refine zx_callV_z (T := zx_TTypes) E [.int x4] (fun rZ eZ => zt_Types_exists _ _ x4 h _ eZ) zg_1 Nat.zero_lt_one rfl zc_Ways_23 ⟨by decide, by decide⟩ (Nat.zero_le _) (Nat.zero_le _) rfl rfl (Nat.le_of_ble_eq_true rfl) dd_Ways_find_154 (fun r2 => ?_)
  refine zx_ifb_eq E (x := r2) 184 dd_Ways_find_157 rfl ?_ ?_
  rotate_left
  · refine zx_sub [1, 2, 3, 4, 5, 0] rfl ?_
    exact zj_Ways_find_184 E k8 hk8 x3 x4 x5 x6 s0 h
  refine zx_aload_n E 1 dd_Ways_find_160 rfl rfl ?_
  refine zx_getR E 15 0 zd_Ways_found zg_14 Nat.zero_lt_one (zr_Ways_found _) zw_257 dd_Ways_find_161 ?_
  refine zx_iload_n E 2 dd_Ways_find_164 rfl rfl ?_
  refine zx_bipush E (40 : Int32) dd_Ways_find_165 (by decide) ?_
  refine zx_imul E dd_Ways_find_167 ?_
  refine zx_iload E 3 dd_Ways_find_168 rfl ?_
  refine zx_iadd E dd_Ways_find_170 ?_
  refine zx_iload E 0 dd_Ways_find_171 rfl ?_
  refine zx_ifb_eq E (x := s0) 181 dd_Ways_find_173 rfl ?_ ?_
  rotate_left
  · refine zx_iload E 5 dd_Ways_find_181 rfl ?_
    refine zx_sub [1, 2, 3, 4, 5, 0] rfl ?_
    exact zj_Ways_find_183 E k8 hk8 x3 x4 x5 x6 s0 ((x3 * (40 : Int32)) + x4) x6 h
  refine zx_bipush E (64 : Int32) dd_Ways_find_176 (by decide) ?_
  refine zx_goto E 183 dd_Ways_find_178 rfl ?_
  refine zx_sub [1, 2, 3, 4, 5, 0] rfl ?_
  exact zj_Ways_find_183 E k8 hk8 x3 x4 x5 x6 s0 ((x3 * (40 : Int32)) + x4) (64 : Int32) h
set_option maxHeartbeats 4000000 in
set_option maxRecDepth 20000 in
theorem zj_Ways_find_134 {B : zx_B} (E : zx_E B zm_Ways_find) (k8 : (Int32 → Int32 → Int32 → zx_H → Option (Int32 × zx_H))) (hk8 : ∀ (x3 : Int32) (x4 : Int32) (x5 : Int32) (h : zx_H), zx_X B zm_Ways_find (zx_QM B (fun r => ((some (Value.int r.1) : Option Value), r.2))) (k8 x3 x4 x5 h) 0 0 8 [(0, zx_rV (zx_BK B) 14 0), (3, .int x3), (4, .int x4), (5, .int x5)] [] h) (x3 : Int32) (x4 : Int32) (x5 : Int32) (x6 : Int32) (h : zx_H) : zx_X B zm_Ways_find (zx_QM B (fun r => ((some (Value.int r.1) : Option Value), r.2))) (zs_Ways_find_J134 k8 x3 x4 x5 x6 h) 0 0 134 [(0, zx_rV (zx_BK B) 14 0), (3, .int x3), (4, .int x4), (5, .int x5), (6, .int x6)] [] h := by
  unfold zs_Ways_find_J134
  refine zx_iconst E (0 : Int32) dd_Ways_find_134 (by decide) ?_
  exact zj_Ways_find_135 E k8 hk8 x3 x4 x5 x6 false h
set_option maxHeartbeats 4000000 in
set_option maxRecDepth 20000 in
theorem zj_Ways_find_99 {B : zx_B} (E : zx_E B zm_Ways_find) (k8 : (Int32 → Int32 → Int32 → zx_H → Option (Int32 × zx_H))) (hk8 : ∀ (x3 : Int32) (x4 : Int32) (x5 : Int32) (h : zx_H), zx_X B zm_Ways_find (zx_QM B (fun r => ((some (Value.int r.1) : Option Value), r.2))) (k8 x3 x4 x5 h) 0 0 8 [(0, zx_rV (zx_BK B) 14 0), (3, .int x3), (4, .int x4), (5, .int x5)] [] h) (x3 : Int32) (x4 : Int32) (x5 : Int32) (s0 : Int32) (h : zx_H) : zx_X B zm_Ways_find (zx_QM B (fun r => ((some (Value.int r.1) : Option Value), r.2))) (zs_Ways_find_J99 k8 x3 x4 x5 s0 h) 0 0 99 [(0, zx_rV (zx_BK B) 14 0), (3, .int x3), (4, .int x4), (5, .int x5)] [.int s0] h := by
  unfold zs_Ways_find_J99
  refine zx_istore E (lv1 := [(6, .int s0), (0, zx_rV (zx_BK B) 14 0), (3, .int x3), (4, .int x4), (5, .int x5)]) dd_Ways_find_99 (by decide) rfl ?_
  refine zx_iload E 0 dd_Ways_find_101 rfl ?_
  refine zx_iconst E (-1 : Int32) dd_Ways_find_103 (by decide) ?_
  refine zx_icmp_ne E 134 dd_Ways_find_104 rfl ?_ ?_
  rotate_left
  · refine zx_sub [1, 2, 3, 4, 0] rfl ?_
    exact zj_Ways_find_134 E k8 hk8 x3 x4 x5 s0 h
  refine zx_aload_n E 1 dd_Ways_find_107 rfl rfl ?_
  refine zx_getR E 1 0 zd_Ways_types zg_14 Nat.zero_lt_one (zr_Ways_types _) zw_255 dd_Ways_find_108 ?_
  refine zx_iload_n E 2 dd_Ways_find_111 rfl rfl ?_
  refine zx_callV_z (T := zx_TTypes) E [.int x3] (fun rZ eZ => zt_Types_isList _ _ x3 h _ eZ) zg_1 Nat.zero_lt_one rfl zc_Ways_41 ⟨by decide, by decide⟩ (Nat.zero_le _) (Nat.zero_le _) rfl rfl (Nat.le_of_ble_eq_true rfl) dd_Ways_find_112 (fun r1 => ?_)
  refine zx_ifb_eq E (x := r1) 134 dd_Ways_find_115 rfl ?_ ?_
  rotate_left
  · refine zx_sub [1, 2, 3, 4, 0] rfl ?_
    exact zj_Ways_find_134 E k8 hk8 x3 x4 x5 s0 h
  refine zx_aload_n E 1 dd_Ways_find_118 rfl rfl ?_
  refine zx_getR E 1 0 zd_Ways_types zg_14 Nat.zero_lt_one (zr_Ways_types _) zw_255 dd_Ways_find_119 ?_
  refine zx_iload E 3 dd_Ways_find_122 rfl ?_
  refine zx_callV_z (T := zx_TTypes) E [.int x4] (fun rZ eZ => zt_Types_isList _ _ x4 h _ eZ) zg_1 Nat.zero_lt_one rfl zc_Ways_41 ⟨by decide, by decide⟩ (Nat.zero_le _) (Nat.zero_le _) rfl rfl (Nat.le_of_ble_eq_true rfl) dd_Ways_find_124 (fun r2 => ?_)
  refine zx_ifb_eq E (x := r2) 134 dd_Ways_find_127 rfl ?_ ?_
  rotate_left
  · refine zx_sub [1, 2, 3, 4, 0] rfl ?_
    exact zj_Ways_find_134 E k8 hk8 x3 x4 x5 s0 h
  refine zx_iconst E (1 : Int32) dd_Ways_find_130 (by decide) ?_
  refine zx_goto E 135 dd_Ways_find_131 rfl ?_
  refine zx_sub [1, 2, 3, 4, 0] rfl ?_
  exact zj_Ways_find_135 E k8 hk8 x3 x4 x5 s0 true h
set_option maxHeartbeats 4000000 in
set_option maxRecDepth 20000 in
theorem zj_Ways_find_78 {B : zx_B} (E : zx_E B zm_Ways_find) (k8 : (Int32 → Int32 → Int32 → zx_H → Option (Int32 × zx_H))) (hk8 : ∀ (x3 : Int32) (x4 : Int32) (x5 : Int32) (h : zx_H), zx_X B zm_Ways_find (zx_QM B (fun r => ((some (Value.int r.1) : Option Value), r.2))) (k8 x3 x4 x5 h) 0 0 8 [(0, zx_rV (zx_BK B) 14 0), (3, .int x3), (4, .int x4), (5, .int x5)] [] h) (x3 : Int32) (x4 : Int32) (x5 : Int32) (s0 : Int32) (h : zx_H) : zx_X B zm_Ways_find (zx_QM B (fun r => ((some (Value.int r.1) : Option Value), r.2))) (zs_Ways_find_J78 k8 x3 x4 x5 s0 h) 0 0 78 [(0, zx_rV (zx_BK B) 14 0), (3, .int x3), (4, .int x4), (5, .int x5)] [.int s0] h := by
  unfold zs_Ways_find_J78
  refine zx_istore E (lv1 := [(6, .int s0), (0, zx_rV (zx_BK B) 14 0), (3, .int x3), (4, .int x4), (5, .int x5)]) dd_Ways_find_78 (by decide) rfl ?_
  refine zx_iload E 0 dd_Ways_find_80 rfl ?_
  refine zx_iconst E (-1 : Int32) dd_Ways_find_82 (by decide) ?_
  refine zx_icmp_ne E 97 dd_Ways_find_83 rfl ?_ ?_
  rotate_left
  · refine zx_iload E 0 dd_Ways_find_97 rfl ?_
    refine zx_sub [1, 2, 3, 4] rfl ?_
    exact zj_Ways_find_99 E k8 hk8 x3 x4 x5 s0 h
  refine zx_aload_n E 1 dd_Ways_find_86 rfl rfl ?_
  refine zx_iload_n E 2 dd_Ways_find_87 rfl rfl ?_
  refine zx_iload E 3 dd_Ways_find_88 rfl ?_
  refine zx_iconst E (1 : Int32) dd_Ways_find_90 (by decide) ?_
  refine zx_callV_i (T := zx_TWays) E [.int x3, .int x4, .int (1 : Int32)] (fun rZ eZ => zt_Ways_functionWay _ _ x3 x4 true h _ eZ) zg_14 Nat.zero_lt_one rfl zc_Ways_29 ⟨by decide, by decide⟩ (Nat.zero_le _) (Nat.zero_le _) rfl rfl (Nat.le_of_ble_eq_true rfl) dd_Ways_find_91 (fun r1 => ?_)
  refine zx_goto E 99 dd_Ways_find_94 rfl ?_
  refine zx_sub [1, 2, 3, 4] rfl ?_
  exact zj_Ways_find_99 E k8 hk8 x3 x4 x5 r1 h
set_option maxHeartbeats 4000000 in
set_option maxRecDepth 20000 in
theorem zj_Ways_find_76 {B : zx_B} (E : zx_E B zm_Ways_find) (k8 : (Int32 → Int32 → Int32 → zx_H → Option (Int32 × zx_H))) (hk8 : ∀ (x3 : Int32) (x4 : Int32) (x5 : Int32) (h : zx_H), zx_X B zm_Ways_find (zx_QM B (fun r => ((some (Value.int r.1) : Option Value), r.2))) (k8 x3 x4 x5 h) 0 0 8 [(0, zx_rV (zx_BK B) 14 0), (3, .int x3), (4, .int x4), (5, .int x5)] [] h) (x3 : Int32) (x4 : Int32) (x5 : Int32) (x6 : Int32) (h : zx_H) : zx_X B zm_Ways_find (zx_QM B (fun r => ((some (Value.int r.1) : Option Value), r.2))) (zs_Ways_find_J76 k8 x3 x4 x5 x6 h) 0 0 76 [(0, zx_rV (zx_BK B) 14 0), (3, .int x3), (4, .int x4), (5, .int x5), (6, .int x6)] [] h := by
  unfold zs_Ways_find_J76
  refine zx_iload E 4 dd_Ways_find_76 rfl ?_
  refine zx_sub [0, 1, 2, 3] rfl ?_
  exact zj_Ways_find_78 E k8 hk8 x3 x4 x5 x6 h
set_option maxHeartbeats 4000000 in
set_option maxRecDepth 20000 in
theorem zj_Ways_find_53 {B : zx_B} (E : zx_E B zm_Ways_find) (k8 : (Int32 → Int32 → Int32 → zx_H → Option (Int32 × zx_H))) (hk8 : ∀ (x3 : Int32) (x4 : Int32) (x5 : Int32) (h : zx_H), zx_X B zm_Ways_find (zx_QM B (fun r => ((some (Value.int r.1) : Option Value), r.2))) (k8 x3 x4 x5 h) 0 0 8 [(0, zx_rV (zx_BK B) 14 0), (3, .int x3), (4, .int x4), (5, .int x5)] [] h) (x3 : Int32) (x4 : Int32) (x5 : Int32) (s0 : Int32) (h : zx_H) : zx_X B zm_Ways_find (zx_QM B (fun r => ((some (Value.int r.1) : Option Value), r.2))) (zs_Ways_find_J53 k8 x3 x4 x5 s0 h) 0 0 53 [(0, zx_rV (zx_BK B) 14 0), (3, .int x3), (4, .int x4), (5, .int x5)] [.int s0] h := by
  unfold zs_Ways_find_J53
  refine zx_istore E (lv1 := [(6, .int s0), (0, zx_rV (zx_BK B) 14 0), (3, .int x3), (4, .int x4), (5, .int x5)]) dd_Ways_find_53 (by decide) rfl ?_
  refine zx_iload E 0 dd_Ways_find_55 rfl ?_
  refine zx_iconst E (-1 : Int32) dd_Ways_find_57 (by decide) ?_
  refine zx_icmp_ne E 76 dd_Ways_find_58 rfl ?_ ?_
  rotate_left
  · refine zx_sub [1, 2, 3, 4, 0] rfl ?_
    exact zj_Ways_find_76 E k8 hk8 x3 x4 x5 s0 h
  refine zx_aload_n E 1 dd_Ways_find_61 rfl rfl ?_
  refine zx_iload_n E 2 dd_Ways_find_62 rfl rfl ?_
  refine zx_iload E 3 dd_Ways_find_63 rfl ?_
  refine zx_callV_z (T := zx_TWays) E [.int x3, .int x4] (fun rZ eZ => zt_Ways_converts _ _ x3 x4 h _ eZ) zg_14 Nat.zero_lt_one rfl zc_Ways_37 ⟨by decide, by decide⟩ (Nat.zero_le _) (Nat.zero_le _) rfl rfl (Nat.le_of_ble_eq_true rfl) dd_Ways_find_65 (fun r1 => ?_)
  refine zx_ifb_eq E (x := r1) 76 dd_Ways_find_68 rfl ?_ ?_
  rotate_left
  · refine zx_sub [1, 2, 3, 4, 0] rfl ?_
    exact zj_Ways_find_76 E k8 hk8 x3 x4 x5 s0 h
  refine zx_bipush E (48 : Int32) dd_Ways_find_71 (by decide) ?_
  refine zx_goto E 78 dd_Ways_find_73 rfl ?_
  refine zx_sub [1, 2, 3, 4] rfl ?_
  exact zj_Ways_find_78 E k8 hk8 x3 x4 x5 (48 : Int32) h
set_option maxHeartbeats 4000000 in
set_option maxRecDepth 20000 in
theorem zj_Ways_find_33 {B : zx_B} (E : zx_E B zm_Ways_find) (k8 : (Int32 → Int32 → Int32 → zx_H → Option (Int32 × zx_H))) (hk8 : ∀ (x3 : Int32) (x4 : Int32) (x5 : Int32) (h : zx_H), zx_X B zm_Ways_find (zx_QM B (fun r => ((some (Value.int r.1) : Option Value), r.2))) (k8 x3 x4 x5 h) 0 0 8 [(0, zx_rV (zx_BK B) 14 0), (3, .int x3), (4, .int x4), (5, .int x5)] [] h) (x3 : Int32) (x4 : Int32) (x5 : Int32) (s0 : Int32) (h : zx_H) : zx_X B zm_Ways_find (zx_QM B (fun r => ((some (Value.int r.1) : Option Value), r.2))) (zs_Ways_find_J33 k8 x3 x4 x5 s0 h) 0 0 33 [(0, zx_rV (zx_BK B) 14 0), (3, .int x3), (4, .int x4), (5, .int x5)] [.int s0] h := by
  unfold zs_Ways_find_J33
  refine zx_istore E (lv1 := [(6, .int s0), (0, zx_rV (zx_BK B) 14 0), (3, .int x3), (4, .int x4), (5, .int x5)]) dd_Ways_find_33 (by decide) rfl ?_
  refine zx_iload E 0 dd_Ways_find_35 rfl ?_
  refine zx_iconst E (-1 : Int32) dd_Ways_find_37 (by decide) ?_
  refine zx_icmp_ne E 51 dd_Ways_find_38 rfl ?_ ?_
  rotate_left
  · refine zx_iload E 0 dd_Ways_find_51 rfl ?_
    refine zx_sub [1, 2, 3, 4] rfl ?_
    exact zj_Ways_find_53 E k8 hk8 x3 x4 x5 s0 h
  refine zx_aload_n E 1 dd_Ways_find_41 rfl rfl ?_
  refine zx_iload_n E 2 dd_Ways_find_42 rfl rfl ?_
  refine zx_iload E 3 dd_Ways_find_43 rfl ?_
  refine zx_callV_i (T := zx_TWays) E [.int x3, .int x4] (fun rZ eZ => zt_Ways_methodWay _ _ x3 x4 h _ eZ) zg_14 Nat.zero_lt_one rfl zc_Ways_33 ⟨by decide, by decide⟩ (Nat.zero_le _) (Nat.zero_le _) rfl rfl (Nat.le_of_ble_eq_true rfl) dd_Ways_find_45 (fun r1 => ?_)
  refine zx_goto E 53 dd_Ways_find_48 rfl ?_
  refine zx_sub [1, 2, 3, 4] rfl ?_
  exact zj_Ways_find_53 E k8 hk8 x3 x4 x5 r1 h
set_option maxHeartbeats 4000000 in
set_option maxRecDepth 20000 in
theorem zb_Ways_find_8 {B : zx_B} (E : zx_E B zm_Ways_find)  (k8 : (Int32 → Int32 → Int32 → zx_H → Option (Int32 × zx_H))) (hk8 : ∀ (x3 : Int32) (x4 : Int32) (x5 : Int32) (h : zx_H), zx_X B zm_Ways_find (zx_QM B (fun r => ((some (Value.int r.1) : Option Value), r.2))) (k8 x3 x4 x5 h) 0 0 8 [(0, zx_rV (zx_BK B) 14 0), (3, .int x3), (4, .int x4), (5, .int x5)] [] h) (x3 : Int32) (x4 : Int32) (x5 : Int32) (h : zx_H) : zx_X B zm_Ways_find (zx_QM B (fun r => ((some (Value.int r.1) : Option Value), r.2))) (zs_Ways_find_L8_body  k8 x3 x4 x5 h) 0 0 8 [(0, zx_rV (zx_BK B) 14 0), (3, .int x3), (4, .int x4), (5, .int x5)] [] h := by
  unfold zs_Ways_find_L8_body
  refine zx_iload E 3 dd_Ways_find_8 rfl ?_
  refine zx_bipush E (40 : Int32) dd_Ways_find_10 (by decide) ?_
  refine zx_icmp_ge E 233 dd_Ways_find_12 rfl ?_ ?_
  rotate_left
  · refine zx_iconst E (-1 : Int32) dd_Ways_find_233 (by decide) ?_
    exact zx_iret E rfl rfl dd_Ways_find_234
  refine zx_iload_n E 1 dd_Ways_find_15 rfl rfl ?_
  refine zx_iload E 2 dd_Ways_find_16 rfl ?_
  refine zx_icmp_ne E 25 dd_Ways_find_18 rfl ?_ ?_
  · refine zx_iconst E (0 : Int32) dd_Ways_find_21 (by decide) ?_
    refine zx_goto E 33 dd_Ways_find_22 rfl ?_
    exact zj_Ways_find_33 E k8 hk8 x3 x4 x5 (0 : Int32) h
  refine zx_aload_n E 0 dd_Ways_find_25 rfl rfl ?_
  refine zx_iload_n E 1 dd_Ways_find_26 rfl rfl ?_
  refine zx_iload E 2 dd_Ways_find_27 rfl ?_
  refine zx_iconst E (0 : Int32) dd_Ways_find_29 (by decide) ?_
  refine zx_callV_i (T := zx_TWays) E [.int x3, .int x4, .int (0 : Int32)] (fun rZ eZ => zt_Ways_functionWay _ _ x3 x4 false h _ eZ) zg_14 Nat.zero_lt_one rfl zc_Ways_29 ⟨by decide, by decide⟩ (Nat.zero_le _) (Nat.zero_le _) rfl rfl (Nat.le_of_ble_eq_true rfl) dd_Ways_find_30 (fun r1 => ?_)
  exact zj_Ways_find_33 E k8 hk8 x3 x4 x5 r1 h
theorem zj_Ways_find_8 {B : zx_B} (E : zx_E B zm_Ways_find)  : ∀ (x3 : Int32) (x4 : Int32) (x5 : Int32) (h : zx_H), zx_X B zm_Ways_find (zx_QM B (fun r => ((some (Value.int r.1) : Option Value), r.2))) (zs_Ways_find_L8  x3 x4 x5 h) 0 0 8 [(0, zx_rV (zx_BK B) 14 0), (3, .int x3), (4, .int x4), (5, .int x5)] [] h := by
  unfold zs_Ways_find_L8
  generalize zx_fuel = n
  induction n with
  | zero => intros; exact zx_non
  | succ n ih => intro x3 x4 x5 h; exact zb_Ways_find_8 E  _ ih x3 x4 x5 h
set_option maxHeartbeats 4000000 in
set_option maxRecDepth 20000 in
theorem zt_Ways_find (l : Launch) (K : zx_K) (a1 : Int32) (a2 : Int32) (h : zx_H) (r : (Int32 × zx_H)) (hf : zs_Ways_find a1 a2 h = some r) : zx_MR l zm_Ways_find zy_Ways_find K [zx_rV K 14 0, .int a1, .int a2] h (some (.int r.1)) r.2 := by
  refine zx_ofM (M := zm_Ways_find) (y := zy_Ways_find) (r := r) (as := [zx_rV K 14 0, .int a1, .int a2]) (ρ := (fun r => ((some (Value.int r.1) : Option Value), r.2))) (by decide) rfl hf (Nat.le_of_ble_eq_true rfl) ?_
  intro B hl hK E
  subst hK
  subst hl
  show zx_X B zm_Ways_find _ _ 0 0 0 [(0, zx_rV (zx_BK B) 14 0), (1, .int a1), (2, .int a2)] [] h
  unfold zs_Ways_find
  refine zx_iload_n E 1 dd_Ways_find_0 rfl rfl ?_
  refine zx_istore_n E (lv1 := [(3, .int a1), (0, zx_rV (zx_BK B) 14 0), (1, .int a1), (2, .int a2)]) dd_Ways_find_1 rfl (by decide) rfl ?_
  refine zx_iload_n E 3 dd_Ways_find_2 rfl rfl ?_
  refine zx_istore E (lv1 := [(4, .int a2), (3, .int a1), (0, zx_rV (zx_BK B) 14 0), (1, .int a1), (2, .int a2)]) dd_Ways_find_3 (by decide) rfl ?_
  refine zx_iconst E (0 : Int32) dd_Ways_find_5 (by decide) ?_
  refine zx_istore E (lv1 := [(5, .int (0 : Int32)), (4, .int a2), (3, .int a1), (0, zx_rV (zx_BK B) 14 0), (1, .int a1), (2, .int a2)]) dd_Ways_find_6 (by decide) rfl ?_
  refine zx_sub [3, 2, 1, 0] rfl ?_
  exact zj_Ways_find_8 E a1 a2 (0 : Int32) h
set_option maxHeartbeats 4000000 in
set_option maxRecDepth 20000 in
theorem zt_Planner_faultOf (l : Launch) (K : zx_K) (a1 : Int32) (h : zx_H) (r : Int32) (hf : zs_Planner_faultOf a1 h = some r) : zx_MR l zm_Planner_faultOf zy_Planner_faultOf K [zx_rV K 16 0, .int a1] h (some (.int r)) h := by
  refine zx_ofM (M := zm_Planner_faultOf) (y := zy_Planner_faultOf) (r := r) (as := [zx_rV K 16 0, .int a1]) (ρ := (fun r => ((some (Value.int r) : Option Value), h))) (by decide) rfl hf (Nat.le_of_ble_eq_true rfl) ?_
  intro B hl hK E
  subst hK
  subst hl
  show zx_X B zm_Planner_faultOf _ _ 0 0 0 [(0, zx_rV (zx_BK B) 16 0), (1, .int a1)] [] h
  unfold zs_Planner_faultOf
  refine zx_iload_n E 1 dd_Planner_faultOf_0 rfl rfl ?_
  refine zx_iconst E (-1 : Int32) dd_Planner_faultOf_1 (by decide) ?_
  refine zx_icmp_ne E 10 dd_Planner_faultOf_2 rfl ?_ ?_
  · refine zx_bipush E (6 : Int32) dd_Planner_faultOf_5 (by decide) ?_
    refine zx_goto E 22 dd_Planner_faultOf_7 rfl ?_
    exact zx_iret E rfl rfl dd_Planner_faultOf_22
  refine zx_iload_n E 1 dd_Planner_faultOf_10 rfl rfl ?_
  refine zx_bipush E (-2 : Int32) dd_Planner_faultOf_11 (by decide) ?_
  refine zx_icmp_ne E 21 dd_Planner_faultOf_13 rfl ?_ ?_
  rotate_left
  · refine zx_iconst E (0 : Int32) dd_Planner_faultOf_21 (by decide) ?_
    exact zx_iret E rfl rfl dd_Planner_faultOf_22
  refine zx_bipush E (7 : Int32) dd_Planner_faultOf_16 (by decide) ?_
  refine zx_goto E 22 dd_Planner_faultOf_18 rfl ?_
  exact zx_iret E rfl rfl dd_Planner_faultOf_22
set_option maxHeartbeats 4000000 in
set_option maxRecDepth 20000 in
theorem zj_Planner_pathTo_126 {B : zx_B} (E : zx_E B zm_Planner_pathTo) (h : zx_H)  (s0 : Int32) : zx_X B zm_Planner_pathTo (zx_QM B (fun r => ((some (Value.long r) : Option Value), h))) (zs_Planner_pathTo_J126 h  s0) 0 0 126 [] [.int s0] h := by
  unfold zs_Planner_pathTo_J126
  refine zx_i2l E dd_Planner_pathTo_126 ?_
  refine zx_lconst E (1 : Int64) dd_Planner_pathTo_127 rfl ?_
  refine zx_ladd E dd_Planner_pathTo_128 ?_
  exact zx_lret E rfl rfl dd_Planner_pathTo_129
set_option maxHeartbeats 4000000 in
set_option maxRecDepth 20000 in
theorem zj_Planner_pathTo_130 {B : zx_B} (E : zx_E B zm_Planner_pathTo) (h : zx_H) (k51 : (Fin 16 → Int32 → Fin 16 → Int32 → Option Int64)) (hk51 : ∀ (x1 : Fin 16) (x2 : Int32) (x4 : Fin 16) (x5 : Int32), zx_X B zm_Planner_pathTo (zx_QM B (fun r => ((some (Value.long r) : Option Value), h))) (k51 x1 x2 x4 x5) 0 0 51 [(0, zx_rV (zx_BK B) 16 0), (1, zx_rV (zx_BK B) 54 x1.val), (2, .int x2), (4, zx_rV (zx_BK B) 54 x4.val), (5, .int x5)] [] h) (x1 : Fin 16) (x2 : Int32) (x4 : Fin 16) (x5 : Int32) : zx_X B zm_Planner_pathTo (zx_QM B (fun r => ((some (Value.long r) : Option Value), h))) (zs_Planner_pathTo_J130 h k51 x1 x2 x4 x5) 0 0 130 [(0, zx_rV (zx_BK B) 16 0), (1, zx_rV (zx_BK B) 54 x1.val), (2, .int x2), (4, zx_rV (zx_BK B) 54 x4.val), (5, .int x5)] [] h := by
  unfold zs_Planner_pathTo_J130
  refine zx_iinc E 4 (x5 + (1 : Int32)) (lv1 := [(5, .int (x5 + (1 : Int32))), (0, zx_rV (zx_BK B) 16 0), (1, zx_rV (zx_BK B) 54 x1.val), (2, .int x2), (4, zx_rV (zx_BK B) 54 x4.val)]) dd_Planner_pathTo_130 rfl rfl (by decide) rfl ?_
  refine zx_goto E 51 dd_Planner_pathTo_133 rfl ?_
  refine zx_sub [1, 2, 3, 4, 0] rfl ?_
  exact hk51 x1 x2 x4 (x5 + (1 : Int32))
set_option maxHeartbeats 4000000 in
set_option maxRecDepth 20000 in
theorem zj_Planner_pathTo_136 {B : zx_B} (E : zx_E B zm_Planner_pathTo) (h : zx_H)  (x2 : Int32) : zx_X B zm_Planner_pathTo (zx_QM B (fun r => ((some (Value.long r) : Option Value), h))) (zs_Planner_pathTo_J136 h  x2) 0 0 136 [(2, .int x2)] [] h := by
  unfold zs_Planner_pathTo_J136
  refine zx_iload_n E 0 dd_Planner_pathTo_136 rfl rfl ?_
  refine zx_i2l E dd_Planner_pathTo_137 ?_
  refine zx_lconst E (1 : Int64) dd_Planner_pathTo_138 rfl ?_
  refine zx_ladd E dd_Planner_pathTo_139 ?_
  exact zx_lret E rfl rfl dd_Planner_pathTo_140
set_option maxHeartbeats 4000000 in
set_option maxRecDepth 20000 in
theorem zb_Planner_pathTo_51 {B : zx_B} (E : zx_E B zm_Planner_pathTo) (h : zx_H)  (k51 : (Fin 16 → Int32 → Fin 16 → Int32 → Option Int64)) (hk51 : ∀ (x1 : Fin 16) (x2 : Int32) (x4 : Fin 16) (x5 : Int32), zx_X B zm_Planner_pathTo (zx_QM B (fun r => ((some (Value.long r) : Option Value), h))) (k51 x1 x2 x4 x5) 0 0 51 [(0, zx_rV (zx_BK B) 16 0), (1, zx_rV (zx_BK B) 54 x1.val), (2, .int x2), (4, zx_rV (zx_BK B) 54 x4.val), (5, .int x5)] [] h) (x1 : Fin 16) (x2 : Int32) (x4 : Fin 16) (x5 : Int32) : zx_X B zm_Planner_pathTo (zx_QM B (fun r => ((some (Value.long r) : Option Value), h))) (zs_Planner_pathTo_L51_body h  k51 x1 x2 x4 x5) 0 0 51 [(0, zx_rV (zx_BK B) 16 0), (1, zx_rV (zx_BK B) 54 x1.val), (2, .int x2), (4, zx_rV (zx_BK B) 54 x4.val), (5, .int x5)] [] h := by
  unfold zs_Planner_pathTo_L51_body
  refine zx_iload E 4 dd_Planner_pathTo_51 rfl ?_
  refine zx_aload E 3 dd_Planner_pathTo_53 rfl ?_
  refine zx_getI E zd_Method_ruleCount zg_54 x4.isLt zw_161 dd_Planner_pathTo_55 ?_
  refine zx_icmp_ge E 136 dd_Planner_pathTo_58 rfl ?_ ?_
  rotate_left
  · refine zx_sub [2] rfl ?_
    exact zj_Planner_pathTo_136 E h x2
  refine zx_aload E 3 dd_Planner_pathTo_61 rfl ?_
  refine zx_getR E 55 x4.val zd_Method_kinds zg_54 x4.isLt (zr_Method_kinds _) zw_165 dd_Planner_pathTo_63 ?_
  refine zx_iload E 4 dd_Planner_pathTo_66 rfl ?_
  refine zx_iald E zg_55 x4.isLt dd_Planner_pathTo_68 ?_
  refine zx_if_ne E 130 dd_Planner_pathTo_69 rfl ?_ ?_
  rotate_left
  · exact zj_Planner_pathTo_130 E h k51 hk51 x1 x2 x4 x5
  refine zx_aload E 3 dd_Planner_pathTo_72 rfl ?_
  refine zx_getR E 57 x4.val zd_Method_whats zg_54 x4.isLt (zr_Method_whats _) zw_170 dd_Planner_pathTo_74 ?_
  refine zx_iload E 4 dd_Planner_pathTo_77 rfl ?_
  refine zx_lald E zg_57 x4.isLt dd_Planner_pathTo_79 ?_
  refine zx_ldc2 E (65535 : Int64) zw_764 dd_Planner_pathTo_80 ?_
  refine zx_land E dd_Planner_pathTo_83 ?_
  refine zx_iload_n E 2 dd_Planner_pathTo_84 rfl rfl ?_
  refine zx_iconst E (1 : Int32) dd_Planner_pathTo_85 (by decide) ?_
  refine zx_iadd E dd_Planner_pathTo_86 ?_
  refine zx_i2l E dd_Planner_pathTo_87 ?_
  refine zx_lcmp_ne E 130 dd_Planner_pathTo_88 dd_Planner_pathTo_89 rfl ?_ ?_
  rotate_left
  · exact zj_Planner_pathTo_130 E h k51 hk51 x1 x2 x4 x5
  refine zx_aload E 3 dd_Planner_pathTo_92 rfl ?_
  refine zx_getR E 56 x4.val zd_Method_targets zg_54 x4.isLt (zr_Method_targets _) zw_168 dd_Planner_pathTo_94 ?_
  refine zx_iload E 4 dd_Planner_pathTo_97 rfl ?_
  refine zx_iald E zg_56 x4.isLt dd_Planner_pathTo_99 ?_
  refine zx_leti (fun y1 => ?_)
  refine zx_istore E (lv1 := [(6, .int y1), (0, zx_rV (zx_BK B) 16 0), (1, zx_rV (zx_BK B) 54 x1.val), (2, .int x2), (4, zx_rV (zx_BK B) 54 x4.val), (5, .int x5)]) dd_Planner_pathTo_100 (by decide) rfl ?_
  refine zx_aload_n E 1 dd_Planner_pathTo_102 rfl rfl ?_
  refine zx_getR E 1 0 zd_Planner_types zg_16 Nat.zero_lt_one (zr_Planner_types _) zw_273 dd_Planner_pathTo_103 ?_
  refine zx_aload_n E 2 dd_Planner_pathTo_106 rfl rfl ?_
  refine zx_getI E zd_Method_from zg_54 x1.isLt zw_152 dd_Planner_pathTo_107 ?_
  refine zx_iload E 0 dd_Planner_pathTo_110 rfl ?_
  refine zx_i2l E dd_Planner_pathTo_112 ?_
  refine zx_callV_i (T := zx_TTypes) E [.int (h.1 54 x1.val 0), .long (y1.toInt64)] (fun rZ eZ => zt_Types_placeOf _ _ (h.1 54 x1.val 0) (y1.toInt64) h _ eZ) zg_1 Nat.zero_lt_one rfl zc_Planner_126 ⟨by decide, by decide⟩ (Nat.zero_le _) (Nat.zero_le _) rfl rfl (Nat.le_of_ble_eq_true rfl) dd_Planner_pathTo_113 (fun r2 => ?_)
  refine zx_iconst E (-1 : Int32) dd_Planner_pathTo_116 (by decide) ?_
  refine zx_icmp_eq E 125 dd_Planner_pathTo_117 rfl ?_ ?_
  rotate_left
  · refine zx_iload_n E 3 dd_Planner_pathTo_125 rfl rfl ?_
    refine zx_sub [] rfl ?_
    exact zj_Planner_pathTo_126 E h x2
  refine zx_iload E 0 dd_Planner_pathTo_120 rfl ?_
  refine zx_goto E 126 dd_Planner_pathTo_122 rfl ?_
  refine zx_sub [] rfl ?_
  exact zj_Planner_pathTo_126 E h y1
theorem zj_Planner_pathTo_51 {B : zx_B} (E : zx_E B zm_Planner_pathTo) (h : zx_H)  : ∀ (x1 : Fin 16) (x2 : Int32) (x4 : Fin 16) (x5 : Int32), zx_X B zm_Planner_pathTo (zx_QM B (fun r => ((some (Value.long r) : Option Value), h))) (zs_Planner_pathTo_L51 h  x1 x2 x4 x5) 0 0 51 [(0, zx_rV (zx_BK B) 16 0), (1, zx_rV (zx_BK B) 54 x1.val), (2, .int x2), (4, zx_rV (zx_BK B) 54 x4.val), (5, .int x5)] [] h := by
  unfold zs_Planner_pathTo_L51
  generalize zx_fuel = n
  induction n with
  | zero => intros; exact zx_non
  | succ n ih => intro x1 x2 x4 x5; exact zb_Planner_pathTo_51 E h  _ ih x1 x2 x4 x5
set_option maxHeartbeats 4000000 in
set_option maxRecDepth 20000 in
theorem zt_Planner_pathTo (l : Launch) (K : zx_K) (a1 : Fin 16) (a2 : Int32) (h : zx_H) (r : Int64) (hf : zs_Planner_pathTo a1 a2 h = some r) : zx_MR l zm_Planner_pathTo zy_Planner_pathTo K [zx_rV K 16 0, zx_rV K 54 a1.val, .int a2] h (some (.long r)) h := by
  refine zx_ofM (M := zm_Planner_pathTo) (y := zy_Planner_pathTo) (r := r) (as := [zx_rV K 16 0, zx_rV K 54 a1.val, .int a2]) (ρ := (fun r => ((some (Value.long r) : Option Value), h))) (by decide) rfl hf (Nat.le_of_ble_eq_true rfl) ?_
  intro B hl hK E
  subst hK
  subst hl
  show zx_X B zm_Planner_pathTo _ _ 0 0 0 [(0, zx_rV (zx_BK B) 16 0), (1, zx_rV (zx_BK B) 54 a1.val), (2, .int a2)] [] h
  unfold zs_Planner_pathTo
  refine zx_aload_n E 1 dd_Planner_pathTo_0 rfl rfl ?_
  refine zx_iconst E (0 : Int32) dd_Planner_pathTo_1 (by decide) ?_
  refine zx_iload_n E 2 dd_Planner_pathTo_2 rfl rfl ?_
  refine zx_callV_i (T := zx_TMethod) E [.int (0 : Int32), .int a2] (fun rZ eZ => zt_Method_first _ _ a1 (0 : Int32) a2 h _ eZ) zg_54 a1.isLt rfl zc_Planner_152 ⟨by decide, by decide⟩ (Nat.zero_le _) (Nat.zero_le _) rfl rfl (Nat.le_of_ble_eq_true rfl) dd_Planner_pathTo_3 (fun r1 => ?_)
  refine zx_istore_n E (lv1 := [(3, .int r1), (0, zx_rV (zx_BK B) 16 0), (1, zx_rV (zx_BK B) 54 a1.val), (2, .int a2)]) dd_Planner_pathTo_6 rfl (by decide) rfl ?_
  refine zx_iload_n E 0 dd_Planner_pathTo_7 rfl rfl ?_
  refine zx_iconst E (-1 : Int32) dd_Planner_pathTo_8 (by decide) ?_
  refine zx_icmp_eq E 19 dd_Planner_pathTo_9 rfl ?_ ?_
  · refine zx_aload_n E 2 dd_Planner_pathTo_12 rfl rfl ?_
    refine zx_getR E 57 a1.val zd_Method_whats zg_54 a1.isLt (zr_Method_whats _) zw_170 dd_Planner_pathTo_13 ?_
    refine zx_iload_n E 0 dd_Planner_pathTo_16 rfl rfl ?_
    refine zx_lald E zg_57 a1.isLt dd_Planner_pathTo_17 ?_
    exact zx_lret E rfl rfl dd_Planner_pathTo_18
  refine zx_aload_n E 1 dd_Planner_pathTo_19 rfl rfl ?_
  refine zx_getR E 11 0 zd_Planner_model zg_16 Nat.zero_lt_one (zr_Planner_model _) zw_274 dd_Planner_pathTo_20 ?_
  refine zx_aload_n E 2 dd_Planner_pathTo_23 rfl rfl ?_
  refine zx_getI E zd_Method_inverse zg_54 a1.isLt zw_172 dd_Planner_pathTo_24 ?_
  refine zx_i2l E dd_Planner_pathTo_27 ?_
  refine zx_callV_z (T := zx_TModel) E [.long ((h.1 54 a1.val 6).toInt64)] (fun rZ eZ => zt_Model_hasMethod _ _ ((h.1 54 a1.val 6).toInt64) h _ eZ) zg_11 Nat.zero_lt_one rfl zc_Planner_112 ⟨by decide, by decide⟩ (Nat.zero_le _) (Nat.zero_le _) rfl rfl (Nat.le_of_ble_eq_true rfl) dd_Planner_pathTo_28 (fun r2 => ?_)
  refine zx_ifb_eq E (x := r2) 136 dd_Planner_pathTo_31 rfl ?_ ?_
  rotate_left
  · refine zx_sub [3] rfl ?_
    exact zj_Planner_pathTo_136 E h a2
  refine zx_aload_n E 1 dd_Planner_pathTo_34 rfl rfl ?_
  refine zx_getR E 11 0 zd_Planner_model zg_16 Nat.zero_lt_one (zr_Planner_model _) zw_274 dd_Planner_pathTo_35 ?_
  refine zx_getR E 13 0 zd_Model_methods zg_11 Nat.zero_lt_one (zr_Model_methods _) zw_207 dd_Planner_pathTo_38 ?_
  refine zx_aload_n E 2 dd_Planner_pathTo_41 rfl rfl ?_
  refine zx_getI E zd_Method_inverse zg_54 a1.isLt zw_172 dd_Planner_pathTo_42 ?_
  refine zx_aaldM E dd_Planner_pathTo_45 (fun j3 => ?_)
  refine zx_astore E (lv1 := [(4, zx_rV (zx_BK B) 54 j3.val), (3, .int r1), (0, zx_rV (zx_BK B) 16 0), (1, zx_rV (zx_BK B) 54 a1.val), (2, .int a2)]) dd_Planner_pathTo_46 (by decide) rfl ?_
  refine zx_iconst E (0 : Int32) dd_Planner_pathTo_48 (by decide) ?_
  refine zx_istore E (lv1 := [(5, .int (0 : Int32)), (4, zx_rV (zx_BK B) 54 j3.val), (3, .int r1), (0, zx_rV (zx_BK B) 16 0), (1, zx_rV (zx_BK B) 54 a1.val), (2, .int a2)]) dd_Planner_pathTo_49 (by decide) rfl ?_
  refine zx_sub [3, 4, 5, 1, 0] rfl ?_
  exact zj_Planner_pathTo_51 E h a1 a2 j3 (0 : Int32)
set_option maxHeartbeats 4000000 in
set_option maxRecDepth 20000 in
theorem zj_Planner_wayBy_52 {B : zx_B} (E : zx_E B zm_Planner_wayBy) (h : zx_H)   : zx_X B zm_Planner_wayBy (zx_QM B (fun r => ((some (Value.int r) : Option Value), h))) (zs_Planner_wayBy_J52 h  ) 0 0 52 [] [] h := by
  unfold zs_Planner_wayBy_J52
  refine zx_iconst E (-1 : Int32) dd_Planner_wayBy_52 (by decide) ?_
  exact zx_iret E rfl rfl dd_Planner_wayBy_53
set_option maxHeartbeats 4000000 in
set_option maxRecDepth 20000 in
theorem zt_Planner_wayBy (l : Launch) (K : zx_K) (a1 : Int64) (a3 : Int32) (a4 : Int32) (h : zx_H) (r : Int32) (hf : zs_Planner_wayBy a1 a3 a4 h = some r) : zx_MR l zm_Planner_wayBy zy_Planner_wayBy K [zx_rV K 16 0, .long a1, .int a3, .int a4] h (some (.int r)) h := by
  refine zx_ofM (M := zm_Planner_wayBy) (y := zy_Planner_wayBy) (r := r) (as := [zx_rV K 16 0, .long a1, .int a3, .int a4]) (ρ := (fun r => ((some (Value.int r) : Option Value), h))) (by decide) rfl hf (Nat.le_of_ble_eq_true rfl) ?_
  intro B hl hK E
  subst hK
  subst hl
  show zx_X B zm_Planner_wayBy _ _ 0 0 0 [(0, zx_rV (zx_BK B) 16 0), (1, .long a1), (3, .int a3), (4, .int a4)] [] h
  unfold zs_Planner_wayBy
  refine zx_aload_n E 0 dd_Planner_wayBy_0 rfl rfl ?_
  refine zx_getR E 11 0 zd_Planner_model zg_16 Nat.zero_lt_one (zr_Planner_model _) zw_274 dd_Planner_wayBy_1 ?_
  refine zx_lload_n E 1 dd_Planner_wayBy_4 rfl rfl ?_
  refine zx_callV_z (T := zx_TModel) E [.long a1] (fun rZ eZ => zt_Model_hasFunction _ _ a1 h _ eZ) zg_11 Nat.zero_lt_one rfl zc_Planner_134 ⟨by decide, by decide⟩ (Nat.zero_le _) (Nat.zero_le _) rfl rfl (Nat.le_of_ble_eq_true rfl) dd_Planner_wayBy_5 (fun r1 => ?_)
  refine zx_ifb_ne E (x := r1) 13 dd_Planner_wayBy_8 rfl ?_ ?_
  · refine zx_iconst E (-1 : Int32) dd_Planner_wayBy_11 (by decide) ?_
    exact zx_iret E rfl rfl dd_Planner_wayBy_12
  refine zx_aload_n E 0 dd_Planner_wayBy_13 rfl rfl ?_
  refine zx_getR E 11 0 zd_Planner_model zg_16 Nat.zero_lt_one (zr_Planner_model _) zw_274 dd_Planner_wayBy_14 ?_
  refine zx_getR E 12 0 zd_Model_functions zg_11 Nat.zero_lt_one (zr_Model_functions _) zw_205 dd_Planner_wayBy_17 ?_
  refine zx_lload_n E 1 dd_Planner_wayBy_20 rfl rfl ?_
  refine zx_l2i E dd_Planner_wayBy_21 ?_
  refine zx_aaldF E dd_Planner_wayBy_22 (fun j2 => ?_)
  refine zx_astore E (lv1 := [(5, zx_rV (zx_BK B) 53 j2.val), (0, zx_rV (zx_BK B) 16 0), (1, .long a1), (3, .int a3), (4, .int a4)]) dd_Planner_wayBy_23 (by decide) rfl ?_
  refine zx_aload E 0 dd_Planner_wayBy_25 rfl ?_
  refine zx_getI E zd_Function_from zg_53 j2.isLt zw_79 dd_Planner_wayBy_27 ?_
  refine zx_iload_n E 3 dd_Planner_wayBy_30 rfl rfl ?_
  refine zx_icmp_ne E 52 dd_Planner_wayBy_31 rfl ?_ ?_
  rotate_left
  · refine zx_sub [] rfl ?_
    exact zj_Planner_wayBy_52 E h
  refine zx_aload E 0 dd_Planner_wayBy_34 rfl ?_
  refine zx_getI E zd_Function_to zg_53 j2.isLt zw_83 dd_Planner_wayBy_36 ?_
  refine zx_iload E 4 dd_Planner_wayBy_39 rfl ?_
  refine zx_icmp_ne E 52 dd_Planner_wayBy_41 rfl ?_ ?_
  rotate_left
  · refine zx_sub [] rfl ?_
    exact zj_Planner_wayBy_52 E h
  refine zx_bipush E (16 : Int32) dd_Planner_wayBy_44 (by decide) ?_
  refine zx_lload_n E 2 dd_Planner_wayBy_46 rfl rfl ?_
  refine zx_l2i E dd_Planner_wayBy_47 ?_
  refine zx_iadd E dd_Planner_wayBy_48 ?_
  refine zx_goto E 53 dd_Planner_wayBy_49 rfl ?_
  exact zx_iret E rfl rfl dd_Planner_wayBy_53
