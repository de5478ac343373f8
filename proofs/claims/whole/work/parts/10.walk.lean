/-! walks (printed by gen.py) -/
set_option maxHeartbeats 4000000 in
set_option maxRecDepth 20000 in
theorem zt_Loom_diagnosis (l : Launch) (K : zx_K) (a1 : Int32) (h : zx_H) (r : Int32) (hf : zs_Loom_diagnosis a1 h = some r) : zx_MR l zm_Loom_diagnosis zy_Loom_diagnosis K [zx_rV K 0 0, .int a1] h (some (.int r)) h := by
  refine zx_ofM (M := zm_Loom_diagnosis) (y := zy_Loom_diagnosis) (r := r) (as := [zx_rV K 0 0, .int a1]) (ρ := (fun r => ((some (Value.int r) : Option Value), h))) (by decide) rfl hf (Nat.le_of_ble_eq_true rfl) ?_
  intro B hl hK E
  subst hK
  subst hl
  show zx_X B zm_Loom_diagnosis _ _ 0 0 0 [(0, zx_rV (zx_BK B) 0 0), (1, .int a1)] [] h
  unfold zs_Loom_diagnosis
  refine zx_iload_n E 1 dd_Loom_diagnosis_0 rfl rfl ?_
  refine zx_tsw E [28, 36, 44] 52 dd_Loom_diagnosis_1 (by decide) rfl (zx_keys _ _ [0, 1, 2] rfl (by decide)) rfl (by decide) (by decide) ?_ ⟨?_, ?_, ?_, trivial⟩
  · refine zx_iconst E (-1 : Int32) dd_Loom_diagnosis_52 (by decide) ?_
    exact zx_iret E rfl rfl dd_Loom_diagnosis_53
  · refine zx_aload_n E 0 dd_Loom_diagnosis_28 rfl rfl ?_
    refine zx_getR E 16 0 zd_Loom_planner zg_0 Nat.zero_lt_one (zr_Loom_planner _) zw_358 dd_Loom_diagnosis_29 ?_
    refine zx_getI E zd_Planner_fault zg_16 Nat.zero_lt_one zw_278 dd_Loom_diagnosis_32 ?_
    exact zx_iret E rfl rfl dd_Loom_diagnosis_35
  · refine zx_aload_n E 0 dd_Loom_diagnosis_36 rfl rfl ?_
    refine zx_getR E 16 0 zd_Loom_planner zg_0 Nat.zero_lt_one (zr_Loom_planner _) zw_358 dd_Loom_diagnosis_37 ?_
    refine zx_getI E zd_Planner_faultMethod zg_16 Nat.zero_lt_one zw_280 dd_Loom_diagnosis_40 ?_
    exact zx_iret E rfl rfl dd_Loom_diagnosis_43
  · refine zx_aload_n E 0 dd_Loom_diagnosis_44 rfl rfl ?_
    refine zx_getR E 16 0 zd_Loom_planner zg_0 Nat.zero_lt_one (zr_Loom_planner _) zw_358 dd_Loom_diagnosis_45 ?_
    refine zx_getI E zd_Planner_faultPlace zg_16 Nat.zero_lt_one zw_282 dd_Loom_diagnosis_48 ?_
    exact zx_iret E rfl rfl dd_Loom_diagnosis_51
set_option maxHeartbeats 4000000 in
set_option maxRecDepth 20000 in
theorem zj_Store_typeOf_21 {B : zx_B} (E : zx_E B zm_Store_typeOf) (h : zx_H)   : zx_X B zm_Store_typeOf (zx_QM B (fun r => ((some (Value.int r) : Option Value), h))) (zs_Store_typeOf_J21 h  ) 0 0 21 [] [] h := by
  unfold zs_Store_typeOf_J21
  refine zx_iconst E (-1 : Int32) dd_Store_typeOf_21 (by decide) ?_
  exact zx_iret E rfl rfl dd_Store_typeOf_22
set_option maxHeartbeats 4000000 in
set_option maxRecDepth 20000 in
theorem zt_Store_typeOf (l : Launch) (K : zx_K) (a1 : Int32) (h : zx_H) (r : Int32) (hf : zs_Store_typeOf a1 h = some r) : zx_MR l zm_Store_typeOf zy_Store_typeOf K [zx_rV K 7 0, .int a1] h (some (.int r)) h := by
  refine zx_ofM (M := zm_Store_typeOf) (y := zy_Store_typeOf) (r := r) (as := [zx_rV K 7 0, .int a1]) (ρ := (fun r => ((some (Value.int r) : Option Value), h))) (by decide) rfl hf (Nat.le_of_ble_eq_true rfl) ?_
  intro B hl hK E
  subst hK
  subst hl
  show zx_X B zm_Store_typeOf _ _ 0 0 0 [(0, zx_rV (zx_BK B) 7 0), (1, .int a1)] [] h
  unfold zs_Store_typeOf
  refine zx_iload_n E 1 dd_Store_typeOf_0 rfl rfl ?_
  refine zx_if_lt E 21 dd_Store_typeOf_1 rfl ?_ ?_
  rotate_left
  · refine zx_sub [] rfl ?_
    exact zj_Store_typeOf_21 E h
  refine zx_iload_n E 1 dd_Store_typeOf_4 rfl rfl ?_
  refine zx_aload_n E 0 dd_Store_typeOf_5 rfl rfl ?_
  refine zx_getI E zd_Store_size zg_7 Nat.zero_lt_one zw_237 dd_Store_typeOf_6 ?_
  refine zx_icmp_ge E 21 dd_Store_typeOf_9 rfl ?_ ?_
  rotate_left
  · refine zx_sub [] rfl ?_
    exact zj_Store_typeOf_21 E h
  refine zx_aload_n E 0 dd_Store_typeOf_12 rfl rfl ?_
  refine zx_getR E 8 0 zd_Store_objectTypes zg_7 Nat.zero_lt_one (zr_Store_objectTypes _) zw_234 dd_Store_typeOf_13 ?_
  refine zx_iload_n E 1 dd_Store_typeOf_16 rfl rfl ?_
  refine zx_iald E zg_8 Nat.zero_lt_one dd_Store_typeOf_17 ?_
  refine zx_goto E 22 dd_Store_typeOf_18 rfl ?_
  exact zx_iret E rfl rfl dd_Store_typeOf_22
set_option maxHeartbeats 4000000 in
set_option maxRecDepth 20000 in
theorem zj_Types_isBean_28 {B : zx_B} (E : zx_E B zm_Types_isBean) (h : zx_H)   : zx_X B zm_Types_isBean (zx_QM B (fun r => ((some (Value.int (zx_b r)) : Option Value), h))) (zs_Types_isBean_J28 h  ) 0 0 28 [] [] h := by
  unfold zs_Types_isBean_J28
  refine zx_iconst E (0 : Int32) dd_Types_isBean_28 (by decide) ?_
  exact zx_zret E false rfl rfl rfl dd_Types_isBean_29
set_option maxHeartbeats 4000000 in
set_option maxRecDepth 20000 in
theorem zt_Types_isBean (l : Launch) (K : zx_K) (a1 : Int32) (h : zx_H) (r : Bool) (hf : zs_Types_isBean a1 h = some r) : zx_MR l zm_Types_isBean zy_Types_isBean K [zx_rV K 1 0, .int a1] h (some (.int (zx_b r))) h := by
  refine zx_ofM (M := zm_Types_isBean) (y := zy_Types_isBean) (r := r) (as := [zx_rV K 1 0, .int a1]) (ρ := (fun r => ((some (Value.int (zx_b r)) : Option Value), h))) (by decide) rfl hf (Nat.le_of_ble_eq_true rfl) ?_
  intro B hl hK E
  subst hK
  subst hl
  show zx_X B zm_Types_isBean _ _ 0 0 0 [(0, zx_rV (zx_BK B) 1 0), (1, .int a1)] [] h
  unfold zs_Types_isBean
  refine zx_iload_n E 1 dd_Types_isBean_0 rfl rfl ?_
  refine zx_bipush E (15 : Int32) dd_Types_isBean_1 (by decide) ?_
  refine zx_icmp_lt E 28 dd_Types_isBean_3 rfl ?_ ?_
  rotate_left
  · refine zx_sub [] rfl ?_
    exact zj_Types_isBean_28 E h
  refine zx_iload_n E 1 dd_Types_isBean_6 rfl rfl ?_
  refine zx_aload_n E 0 dd_Types_isBean_7 rfl rfl ?_
  refine zx_getI E zd_Types_size zg_1 Nat.zero_lt_one zw_46 dd_Types_isBean_8 ?_
  refine zx_icmp_ge E 28 dd_Types_isBean_11 rfl ?_ ?_
  rotate_left
  · refine zx_sub [] rfl ?_
    exact zj_Types_isBean_28 E h
  refine zx_aload_n E 0 dd_Types_isBean_14 rfl rfl ?_
  refine zx_getR E 2 0 zd_Types_forms zg_1 Nat.zero_lt_one (zr_Types_forms _) zw_41 dd_Types_isBean_15 ?_
  refine zx_iload_n E 1 dd_Types_isBean_18 rfl rfl ?_
  refine zx_iald E zg_2 Nat.zero_lt_one dd_Types_isBean_19 ?_
  refine zx_iconst E (2 : Int32) dd_Types_isBean_20 (by decide) ?_
  refine zx_icmp_ne E 28 dd_Types_isBean_21 rfl ?_ ?_
  rotate_left
  · refine zx_sub [] rfl ?_
    exact zj_Types_isBean_28 E h
  refine zx_iconst E (1 : Int32) dd_Types_isBean_24 (by decide) ?_
  refine zx_goto E 29 dd_Types_isBean_25 rfl ?_
  exact zx_zret E true rfl rfl rfl dd_Types_isBean_29
set_option maxHeartbeats 4000000 in
set_option maxRecDepth 20000 in
theorem zj_Store_hasPlace_30 {B : zx_B} (E : zx_E B zm_Store_hasPlace) (h : zx_H)   : zx_X B zm_Store_hasPlace (zx_QM B (fun r => ((some (Value.int (zx_b r)) : Option Value), h))) (zs_Store_hasPlace_J30 h  ) 0 0 30 [] [] h := by
  unfold zs_Store_hasPlace_J30
  refine zx_iconst E (0 : Int32) dd_Store_hasPlace_30 (by decide) ?_
  exact zx_zret E false rfl rfl rfl dd_Store_hasPlace_31
set_option maxHeartbeats 4000000 in
set_option maxRecDepth 20000 in
theorem zt_Store_hasPlace (l : Launch) (K : zx_K) (a1 : Int32) (a2 : Int32) (h : zx_H) (r : Bool) (hf : zs_Store_hasPlace a1 a2 h = some r) : zx_MR l zm_Store_hasPlace zy_Store_hasPlace K [zx_rV K 7 0, .int a1, .int a2] h (some (.int (zx_b r))) h := by
  refine zx_ofM (M := zm_Store_hasPlace) (y := zy_Store_hasPlace) (r := r) (as := [zx_rV K 7 0, .int a1, .int a2]) (ρ := (fun r => ((some (Value.int (zx_b r)) : Option Value), h))) (by decide) rfl hf (Nat.le_of_ble_eq_true rfl) ?_
  intro B hl hK E
  subst hK
  subst hl
  show zx_X B zm_Store_hasPlace _ _ 0 0 0 [(0, zx_rV (zx_BK B) 7 0), (1, .int a1), (2, .int a2)] [] h
  unfold zs_Store_hasPlace
  refine zx_iload_n E 1 dd_Store_hasPlace_0 rfl rfl ?_
  refine zx_if_lt E 30 dd_Store_hasPlace_1 rfl ?_ ?_
  rotate_left
  · refine zx_sub [] rfl ?_
    exact zj_Store_hasPlace_30 E h
  refine zx_iload_n E 1 dd_Store_hasPlace_4 rfl rfl ?_
  refine zx_aload_n E 0 dd_Store_hasPlace_5 rfl rfl ?_
  refine zx_getI E zd_Store_size zg_7 Nat.zero_lt_one zw_237 dd_Store_hasPlace_6 ?_
  refine zx_icmp_ge E 30 dd_Store_hasPlace_9 rfl ?_ ?_
  rotate_left
  · refine zx_sub [] rfl ?_
    exact zj_Store_hasPlace_30 E h
  refine zx_iload_n E 2 dd_Store_hasPlace_12 rfl rfl ?_
  refine zx_if_lt E 30 dd_Store_hasPlace_13 rfl ?_ ?_
  rotate_left
  · refine zx_sub [] rfl ?_
    exact zj_Store_hasPlace_30 E h
  refine zx_iload_n E 2 dd_Store_hasPlace_16 rfl rfl ?_
  refine zx_aload_n E 0 dd_Store_hasPlace_17 rfl rfl ?_
  refine zx_getR E 9 0 zd_Store_lengths zg_7 Nat.zero_lt_one (zr_Store_lengths _) zw_235 dd_Store_hasPlace_18 ?_
  refine zx_iload_n E 1 dd_Store_hasPlace_21 rfl rfl ?_
  refine zx_iald E zg_9 Nat.zero_lt_one dd_Store_hasPlace_22 ?_
  refine zx_icmp_ge E 30 dd_Store_hasPlace_23 rfl ?_ ?_
  rotate_left
  · refine zx_sub [] rfl ?_
    exact zj_Store_hasPlace_30 E h
  refine zx_iconst E (1 : Int32) dd_Store_hasPlace_26 (by decide) ?_
  refine zx_goto E 31 dd_Store_hasPlace_27 rfl ?_
  exact zx_zret E true rfl rfl rfl dd_Store_hasPlace_31
set_option maxHeartbeats 4000000 in
set_option maxRecDepth 20000 in
theorem zj_Types_typeAt_31 {B : zx_B} (E : zx_E B zm_Types_typeAt) (h : zx_H)  (x1 : Int32) (x2 : Int32) (s0 : Bool) : zx_X B zm_Types_typeAt (zx_QM B (fun r => ((some (Value.int r) : Option Value), h))) (zs_Types_typeAt_J31 h  x1 x2 s0) 0 0 31 [(0, zx_rV (zx_BK B) 1 0), (1, .int x1), (2, .int x2)] [.int (zx_b s0)] h := by
  unfold zs_Types_typeAt_J31
  refine zx_istore_n E (lv1 := [(3, .int (zx_b s0)), (0, zx_rV (zx_BK B) 1 0), (1, .int x1), (2, .int x2)]) dd_Types_typeAt_31 rfl (by decide) rfl ?_
  refine zx_iload_n E 0 dd_Types_typeAt_32 rfl rfl ?_
  refine zx_ifb_eq E (x := s0) 50 dd_Types_typeAt_33 rfl ?_ ?_
  rotate_left
  · refine zx_iconst E (-1 : Int32) dd_Types_typeAt_50 (by decide) ?_
    exact zx_iret E rfl rfl dd_Types_typeAt_51
  refine zx_aload_n E 1 dd_Types_typeAt_36 rfl rfl ?_
  refine zx_getR E 6 0 zd_Types_memberTypes zg_1 Nat.zero_lt_one (zr_Types_memberTypes _) zw_45 dd_Types_typeAt_37 ?_
  refine zx_iload_n E 2 dd_Types_typeAt_40 rfl rfl ?_
  refine zx_bipush E (8 : Int32) dd_Types_typeAt_41 (by decide) ?_
  refine zx_imul E dd_Types_typeAt_43 ?_
  refine zx_iload_n E 3 dd_Types_typeAt_44 rfl rfl ?_
  refine zx_iadd E dd_Types_typeAt_45 ?_
  refine zx_iald E zg_6 Nat.zero_lt_one dd_Types_typeAt_46 ?_
  refine zx_goto E 51 dd_Types_typeAt_47 rfl ?_
  exact zx_iret E rfl rfl dd_Types_typeAt_51
set_option maxHeartbeats 4000000 in
set_option maxRecDepth 20000 in
theorem zj_Types_typeAt_30 {B : zx_B} (E : zx_E B zm_Types_typeAt) (h : zx_H)  (x1 : Int32) (x2 : Int32) : zx_X B zm_Types_typeAt (zx_QM B (fun r => ((some (Value.int r) : Option Value), h))) (zs_Types_typeAt_J30 h  x1 x2) 0 0 30 [(0, zx_rV (zx_BK B) 1 0), (1, .int x1), (2, .int x2)] [] h := by
  unfold zs_Types_typeAt_J30
  refine zx_iconst E (0 : Int32) dd_Types_typeAt_30 (by decide) ?_
  exact zj_Types_typeAt_31 E h x1 x2 false
set_option maxHeartbeats 4000000 in
set_option maxRecDepth 20000 in
theorem zt_Types_typeAt (l : Launch) (K : zx_K) (a1 : Int32) (a2 : Int32) (h : zx_H) (r : Int32) (hf : zs_Types_typeAt a1 a2 h = some r) : zx_MR l zm_Types_typeAt zy_Types_typeAt K [zx_rV K 1 0, .int a1, .int a2] h (some (.int r)) h := by
  refine zx_ofM (M := zm_Types_typeAt) (y := zy_Types_typeAt) (r := r) (as := [zx_rV K 1 0, .int a1, .int a2]) (ρ := (fun r => ((some (Value.int r) : Option Value), h))) (by decide) rfl hf (Nat.le_of_ble_eq_true rfl) ?_
  intro B hl hK E
  subst hK
  subst hl
  show zx_X B zm_Types_typeAt _ _ 0 0 0 [(0, zx_rV (zx_BK B) 1 0), (1, .int a1), (2, .int a2)] [] h
  unfold zs_Types_typeAt
  refine zx_iload_n E 1 dd_Types_typeAt_0 rfl rfl ?_
  refine zx_if_lt E 30 dd_Types_typeAt_1 rfl ?_ ?_
  rotate_left
  · exact zj_Types_typeAt_30 E h a1 a2
  refine zx_iload_n E 1 dd_Types_typeAt_4 rfl rfl ?_
  refine zx_aload_n E 0 dd_Types_typeAt_5 rfl rfl ?_
  refine zx_getI E zd_Types_size zg_1 Nat.zero_lt_one zw_46 dd_Types_typeAt_6 ?_
  refine zx_icmp_ge E 30 dd_Types_typeAt_9 rfl ?_ ?_
  rotate_left
  · exact zj_Types_typeAt_30 E h a1 a2
  refine zx_iload_n E 2 dd_Types_typeAt_12 rfl rfl ?_
  refine zx_if_lt E 30 dd_Types_typeAt_13 rfl ?_ ?_
  rotate_left
  · exact zj_Types_typeAt_30 E h a1 a2
  refine zx_iload_n E 2 dd_Types_typeAt_16 rfl rfl ?_
  refine zx_aload_n E 0 dd_Types_typeAt_17 rfl rfl ?_
  refine zx_getR E 4 0 zd_Types_memberCounts zg_1 Nat.zero_lt_one (zr_Types_memberCounts _) zw_43 dd_Types_typeAt_18 ?_
  refine zx_iload_n E 1 dd_Types_typeAt_21 rfl rfl ?_
  refine zx_iald E zg_4 Nat.zero_lt_one dd_Types_typeAt_22 ?_
  refine zx_icmp_ge E 30 dd_Types_typeAt_23 rfl ?_ ?_
  rotate_left
  · exact zj_Types_typeAt_30 E h a1 a2
  refine zx_iconst E (1 : Int32) dd_Types_typeAt_26 (by decide) ?_
  refine zx_goto E 31 dd_Types_typeAt_27 rfl ?_
  exact zj_Types_typeAt_31 E h a1 a2 true
set_option maxHeartbeats 4000000 in
set_option maxRecDepth 20000 in
theorem zj_Basics_isPrimitive_14 {B : zx_B} (E : zx_E B zm_Basics_isPrimitive) (h : zx_H)   : zx_X B zm_Basics_isPrimitive (zx_QM B (fun r => ((some (Value.int (zx_b r)) : Option Value), h))) (zs_Basics_isPrimitive_J14 h  ) 0 0 14 [] [] h := by
  unfold zs_Basics_isPrimitive_J14
  refine zx_iconst E (0 : Int32) dd_Basics_isPrimitive_14 (by decide) ?_
  exact zx_zret E false rfl rfl rfl dd_Basics_isPrimitive_15
set_option maxHeartbeats 4000000 in
set_option maxRecDepth 20000 in
theorem zt_Basics_isPrimitive (l : Launch) (K : zx_K) (a0 : Int32) (h : zx_H) (r : Bool) (hf : zs_Basics_isPrimitive a0 h = some r) : zx_MR l zm_Basics_isPrimitive zy_Basics_isPrimitive K [.int a0] h (some (.int (zx_b r))) h := by
  refine zx_ofM (M := zm_Basics_isPrimitive) (y := zy_Basics_isPrimitive) (r := r) (as := [.int a0]) (ρ := (fun r => ((some (Value.int (zx_b r)) : Option Value), h))) (by decide) rfl hf (Nat.le_of_ble_eq_true rfl) ?_
  intro B hl hK E
  subst hK
  subst hl
  show zx_X B zm_Basics_isPrimitive _ _ 0 0 0 [(0, .int a0)] [] h
  unfold zs_Basics_isPrimitive
  refine zx_iload_n E 0 dd_Basics_isPrimitive_0 rfl rfl ?_
  refine zx_if_lt E 14 dd_Basics_isPrimitive_1 rfl ?_ ?_
  rotate_left
  · refine zx_sub [] rfl ?_
    exact zj_Basics_isPrimitive_14 E h
  refine zx_iload_n E 0 dd_Basics_isPrimitive_4 rfl rfl ?_
  refine zx_bipush E (7 : Int32) dd_Basics_isPrimitive_5 (by decide) ?_
  refine zx_icmp_ge E 14 dd_Basics_isPrimitive_7 rfl ?_ ?_
  rotate_left
  · refine zx_sub [] rfl ?_
    exact zj_Basics_isPrimitive_14 E h
  refine zx_iconst E (1 : Int32) dd_Basics_isPrimitive_10 (by decide) ?_
  refine zx_goto E 15 dd_Basics_isPrimitive_11 rfl ?_
  exact zx_zret E true rfl rfl rfl dd_Basics_isPrimitive_15
set_option maxHeartbeats 4000000 in
set_option maxRecDepth 20000 in
theorem zj_Basics_holds_60 {B : zx_B} (E : zx_E B zm_Basics_holds) (h : zx_H)   : zx_X B zm_Basics_holds (zx_QM B (fun r => ((some (Value.int (zx_b r)) : Option Value), h))) (zs_Basics_holds_J60 h  ) 0 0 60 [] [] h := by
  unfold zs_Basics_holds_J60
  refine zx_iconst E (0 : Int32) dd_Basics_holds_60 (by decide) ?_
  exact zx_zret E false rfl rfl rfl dd_Basics_holds_61
set_option maxHeartbeats 4000000 in
set_option maxRecDepth 20000 in
theorem zt_Basics_holds (l : Launch) (K : zx_K) (a0 : Int32) (a1 : Int64) (h : zx_H) (r : Bool) (hf : zs_Basics_holds a0 a1 h = some r) : zx_MR l zm_Basics_holds zy_Basics_holds K [.int a0, .long a1] h (some (.int (zx_b r))) h := by
  refine zx_ofM (M := zm_Basics_holds) (y := zy_Basics_holds) (r := r) (as := [.int a0, .long a1]) (ρ := (fun r => ((some (Value.int (zx_b r)) : Option Value), h))) (by decide) rfl hf (Nat.le_of_ble_eq_true rfl) ?_
  intro B hl hK E
  subst hK
  subst hl
  show zx_X B zm_Basics_holds _ _ 0 0 0 [(0, .int a0), (1, .long a1)] [] h
  unfold zs_Basics_holds
  refine zx_iload_n E 0 dd_Basics_holds_0 rfl rfl ?_
  refine zx_bipush E (6 : Int32) dd_Basics_holds_1 (by decide) ?_
  refine zx_icmp_ne E 24 dd_Basics_holds_3 rfl ?_ ?_
  · refine zx_lload_n E 1 dd_Basics_holds_6 rfl rfl ?_
    refine zx_ldc2 E (9223372036854775807 : Int64) zw_408 dd_Basics_holds_7 ?_
    refine zx_land E dd_Basics_holds_10 ?_
    refine zx_ldc2 E (9218868437227405312 : Int64) zw_409 dd_Basics_holds_11 ?_
    refine zx_lcmp_gt E 22 dd_Basics_holds_14 dd_Basics_holds_15 rfl ?_ ?_
    rotate_left
    · refine zx_iconst E (0 : Int32) dd_Basics_holds_22 (by decide) ?_
      exact zx_zret E false rfl rfl rfl dd_Basics_holds_23
    refine zx_iconst E (1 : Int32) dd_Basics_holds_18 (by decide) ?_
    refine zx_goto E 23 dd_Basics_holds_19 rfl ?_
    exact zx_zret E true rfl rfl rfl dd_Basics_holds_23
  refine zx_iload_n E 0 dd_Basics_holds_24 rfl rfl ?_
  refine zx_if_lt E 60 dd_Basics_holds_25 rfl ?_ ?_
  rotate_left
  · refine zx_sub [] rfl ?_
    exact zj_Basics_holds_60 E h
  refine zx_iload_n E 0 dd_Basics_holds_28 rfl rfl ?_
  refine zx_getsL E zw_410 dd_Basics_holds_29 ?_
  refine zx_slenL E dd_Basics_holds_32 ?_
  refine zx_icmp_ge E 60 dd_Basics_holds_33 rfl ?_ ?_
  rotate_left
  · refine zx_sub [] rfl ?_
    exact zj_Basics_holds_60 E h
  refine zx_lload_n E 1 dd_Basics_holds_36 rfl rfl ?_
  refine zx_getsL E zw_410 dd_Basics_holds_37 ?_
  refine zx_iload_n E 0 dd_Basics_holds_40 rfl rfl ?_
  refine zx_slaldL E dd_Basics_holds_41 ?_
  refine zx_lcmp_lt E 60 dd_Basics_holds_42 dd_Basics_holds_43 rfl ?_ ?_
  rotate_left
  · refine zx_sub [] rfl ?_
    exact zj_Basics_holds_60 E h
  refine zx_lload_n E 1 dd_Basics_holds_46 rfl rfl ?_
  refine zx_getsM E zw_412 dd_Basics_holds_47 ?_
  refine zx_iload_n E 0 dd_Basics_holds_50 rfl rfl ?_
  refine zx_slaldM E dd_Basics_holds_51 ?_
  refine zx_lcmp_gt E 60 dd_Basics_holds_52 dd_Basics_holds_53 rfl ?_ ?_
  rotate_left
  · refine zx_sub [] rfl ?_
    exact zj_Basics_holds_60 E h
  refine zx_iconst E (1 : Int32) dd_Basics_holds_56 (by decide) ?_
  refine zx_goto E 61 dd_Basics_holds_57 rfl ?_
  exact zx_zret E true rfl rfl rfl dd_Basics_holds_61
set_option maxHeartbeats 4000000 in
set_option maxRecDepth 20000 in
theorem zj_Types_isEnum_28 {B : zx_B} (E : zx_E B zm_Types_isEnum) (h : zx_H)   : zx_X B zm_Types_isEnum (zx_QM B (fun r => ((some (Value.int (zx_b r)) : Option Value), h))) (zs_Types_isEnum_J28 h  ) 0 0 28 [] [] h := by
  unfold zs_Types_isEnum_J28
  refine zx_iconst E (0 : Int32) dd_Types_isEnum_28 (by decide) ?_
  exact zx_zret E false rfl rfl rfl dd_Types_isEnum_29
set_option maxHeartbeats 4000000 in
set_option maxRecDepth 20000 in
theorem zt_Types_isEnum (l : Launch) (K : zx_K) (a1 : Int32) (h : zx_H) (r : Bool) (hf : zs_Types_isEnum a1 h = some r) : zx_MR l zm_Types_isEnum zy_Types_isEnum K [zx_rV K 1 0, .int a1] h (some (.int (zx_b r))) h := by
  refine zx_ofM (M := zm_Types_isEnum) (y := zy_Types_isEnum) (r := r) (as := [zx_rV K 1 0, .int a1]) (ρ := (fun r => ((some (Value.int (zx_b r)) : Option Value), h))) (by decide) rfl hf (Nat.le_of_ble_eq_true rfl) ?_
  intro B hl hK E
  subst hK
  subst hl
  show zx_X B zm_Types_isEnum _ _ 0 0 0 [(0, zx_rV (zx_BK B) 1 0), (1, .int a1)] [] h
  unfold zs_Types_isEnum
  refine zx_iload_n E 1 dd_Types_isEnum_0 rfl rfl ?_
  refine zx_bipush E (15 : Int32) dd_Types_isEnum_1 (by decide) ?_
  refine zx_icmp_lt E 28 dd_Types_isEnum_3 rfl ?_ ?_
  rotate_left
  · refine zx_sub [] rfl ?_
    exact zj_Types_isEnum_28 E h
  refine zx_iload_n E 1 dd_Types_isEnum_6 rfl rfl ?_
  refine zx_aload_n E 0 dd_Types_isEnum_7 rfl rfl ?_
  refine zx_getI E zd_Types_size zg_1 Nat.zero_lt_one zw_46 dd_Types_isEnum_8 ?_
  refine zx_icmp_ge E 28 dd_Types_isEnum_11 rfl ?_ ?_
  rotate_left
  · refine zx_sub [] rfl ?_
    exact zj_Types_isEnum_28 E h
  refine zx_aload_n E 0 dd_Types_isEnum_14 rfl rfl ?_
  refine zx_getR E 2 0 zd_Types_forms zg_1 Nat.zero_lt_one (zr_Types_forms _) zw_41 dd_Types_isEnum_15 ?_
  refine zx_iload_n E 1 dd_Types_isEnum_18 rfl rfl ?_
  refine zx_iald E zg_2 Nat.zero_lt_one dd_Types_isEnum_19 ?_
  refine zx_iconst E (1 : Int32) dd_Types_isEnum_20 (by decide) ?_
  refine zx_icmp_ne E 28 dd_Types_isEnum_21 rfl ?_ ?_
  rotate_left
  · refine zx_sub [] rfl ?_
    exact zj_Types_isEnum_28 E h
  refine zx_iconst E (1 : Int32) dd_Types_isEnum_24 (by decide) ?_
  refine zx_goto E 29 dd_Types_isEnum_25 rfl ?_
  exact zx_zret E true rfl rfl rfl dd_Types_isEnum_29
set_option maxHeartbeats 4000000 in
set_option maxRecDepth 20000 in
theorem zj_Types_memberCount_21 {B : zx_B} (E : zx_E B zm_Types_memberCount) (h : zx_H)   : zx_X B zm_Types_memberCount (zx_QM B (fun r => ((some (Value.int r) : Option Value), h))) (zs_Types_memberCount_J21 h  ) 0 0 21 [] [] h := by
  unfold zs_Types_memberCount_J21
  refine zx_iconst E (0 : Int32) dd_Types_memberCount_21 (by decide) ?_
  exact zx_iret E rfl rfl dd_Types_memberCount_22
set_option maxHeartbeats 4000000 in
set_option maxRecDepth 20000 in
theorem zt_Types_memberCount (l : Launch) (K : zx_K) (a1 : Int32) (h : zx_H) (r : Int32) (hf : zs_Types_memberCount a1 h = some r) : zx_MR l zm_Types_memberCount zy_Types_memberCount K [zx_rV K 1 0, .int a1] h (some (.int r)) h := by
  refine zx_ofM (M := zm_Types_memberCount) (y := zy_Types_memberCount) (r := r) (as := [zx_rV K 1 0, .int a1]) (ρ := (fun r => ((some (Value.int r) : Option Value), h))) (by decide) rfl hf (Nat.le_of_ble_eq_true rfl) ?_
  intro B hl hK E
  subst hK
  subst hl
  show zx_X B zm_Types_memberCount _ _ 0 0 0 [(0, zx_rV (zx_BK B) 1 0), (1, .int a1)] [] h
  unfold zs_Types_memberCount
  refine zx_iload_n E 1 dd_Types_memberCount_0 rfl rfl ?_
  refine zx_if_lt E 21 dd_Types_memberCount_1 rfl ?_ ?_
  rotate_left
  · refine zx_sub [] rfl ?_
    exact zj_Types_memberCount_21 E h
  refine zx_iload_n E 1 dd_Types_memberCount_4 rfl rfl ?_
  refine zx_aload_n E 0 dd_Types_memberCount_5 rfl rfl ?_
  refine zx_getI E zd_Types_size zg_1 Nat.zero_lt_one zw_46 dd_Types_memberCount_6 ?_
  refine zx_icmp_ge E 21 dd_Types_memberCount_9 rfl ?_ ?_
  rotate_left
  · refine zx_sub [] rfl ?_
    exact zj_Types_memberCount_21 E h
  refine zx_aload_n E 0 dd_Types_memberCount_12 rfl rfl ?_
  refine zx_getR E 4 0 zd_Types_memberCounts zg_1 Nat.zero_lt_one (zr_Types_memberCounts _) zw_43 dd_Types_memberCount_13 ?_
  refine zx_iload_n E 1 dd_Types_memberCount_16 rfl rfl ?_
  refine zx_iald E zg_4 Nat.zero_lt_one dd_Types_memberCount_17 ?_
  refine zx_goto E 22 dd_Types_memberCount_18 rfl ?_
  exact zx_iret E rfl rfl dd_Types_memberCount_22
set_option maxHeartbeats 4000000 in
set_option maxRecDepth 20000 in
theorem zj_Store_has_20 {B : zx_B} (E : zx_E B zm_Store_has) (h : zx_H)   : zx_X B zm_Store_has (zx_QM B (fun r => ((some (Value.int (zx_b r)) : Option Value), h))) (zs_Store_has_J20 h  ) 0 0 20 [] [] h := by
  unfold zs_Store_has_J20
  refine zx_iconst E (0 : Int32) dd_Store_has_20 (by decide) ?_
  exact zx_zret E false rfl rfl rfl dd_Store_has_21
set_option maxHeartbeats 4000000 in
set_option maxRecDepth 20000 in
theorem zt_Store_has (l : Launch) (K : zx_K) (a1 : Int64) (h : zx_H) (r : Bool) (hf : zs_Store_has a1 h = some r) : zx_MR l zm_Store_has zy_Store_has K [zx_rV K 7 0, .long a1] h (some (.int (zx_b r))) h := by
  refine zx_ofM (M := zm_Store_has) (y := zy_Store_has) (r := r) (as := [zx_rV K 7 0, .long a1]) (ρ := (fun r => ((some (Value.int (zx_b r)) : Option Value), h))) (by decide) rfl hf (Nat.le_of_ble_eq_true rfl) ?_
  intro B hl hK E
  subst hK
  subst hl
  show zx_X B zm_Store_has _ _ 0 0 0 [(0, zx_rV (zx_BK B) 7 0), (1, .long a1)] [] h
  unfold zs_Store_has
  refine zx_lload_n E 1 dd_Store_has_0 rfl rfl ?_
  refine zx_lconst E (0 : Int64) dd_Store_has_1 rfl ?_
  refine zx_lcmp_lt E 20 dd_Store_has_2 dd_Store_has_3 rfl ?_ ?_
  rotate_left
  · refine zx_sub [] rfl ?_
    exact zj_Store_has_20 E h
  refine zx_lload_n E 1 dd_Store_has_6 rfl rfl ?_
  refine zx_aload_n E 0 dd_Store_has_7 rfl rfl ?_
  refine zx_getI E zd_Store_size zg_7 Nat.zero_lt_one zw_237 dd_Store_has_8 ?_
  refine zx_i2l E dd_Store_has_11 ?_
  refine zx_lcmp_ge E 20 dd_Store_has_12 dd_Store_has_13 rfl ?_ ?_
  rotate_left
  · refine zx_sub [] rfl ?_
    exact zj_Store_has_20 E h
  refine zx_iconst E (1 : Int32) dd_Store_has_16 (by decide) ?_
  refine zx_goto E 21 dd_Store_has_17 rfl ?_
  exact zx_zret E true rfl rfl rfl dd_Store_has_21
set_option maxHeartbeats 4000000 in
set_option maxRecDepth 20000 in
theorem zj_Store_isValue_58 {B : zx_B} (E : zx_E B zm_Store_isValue) (h : zx_H)   : zx_X B zm_Store_isValue (zx_QM B (fun r => ((some (Value.int (zx_b r)) : Option Value), h))) (zs_Store_isValue_J58 h  ) 0 0 58 [] [] h := by
  unfold zs_Store_isValue_J58
  refine zx_iconst E (0 : Int32) dd_Store_isValue_58 (by decide) ?_
  exact zx_zret E false rfl rfl rfl dd_Store_isValue_59
set_option maxHeartbeats 4000000 in
set_option maxRecDepth 20000 in
theorem zj_Store_isValue_83 {B : zx_B} (E : zx_E B zm_Store_isValue) (h : zx_H)   : zx_X B zm_Store_isValue (zx_QM B (fun r => ((some (Value.int (zx_b r)) : Option Value), h))) (zs_Store_isValue_J83 h  ) 0 0 83 [] [] h := by
  unfold zs_Store_isValue_J83
  refine zx_iconst E (0 : Int32) dd_Store_isValue_83 (by decide) ?_
  exact zx_zret E false rfl rfl rfl dd_Store_isValue_84
set_option maxHeartbeats 4000000 in
set_option maxRecDepth 20000 in
theorem zt_Store_isValue (l : Launch) (K : zx_K) (a1 : Int32) (a2 : Int64) (h : zx_H) (r : Bool) (hf : zs_Store_isValue a1 a2 h = some r) : zx_MR l zm_Store_isValue zy_Store_isValue K [zx_rV K 7 0, .int a1, .long a2] h (some (.int (zx_b r))) h := by
  refine zx_ofM (M := zm_Store_isValue) (y := zy_Store_isValue) (r := r) (as := [zx_rV K 7 0, .int a1, .long a2]) (ρ := (fun r => ((some (Value.int (zx_b r)) : Option Value), h))) (by decide) rfl hf (Nat.le_of_ble_eq_true rfl) ?_
  intro B hl hK E
  subst hK
  subst hl
  show zx_X B zm_Store_isValue _ _ 0 0 0 [(0, zx_rV (zx_BK B) 7 0), (1, .int a1), (2, .long a2)] [] h
  unfold zs_Store_isValue
  refine zx_iload_n E 1 dd_Store_isValue_0 rfl rfl ?_
  refine zx_callS_z E [.int a1] (fun rZ eZ => zt_Basics_isPrimitive _ _ a1 h _ eZ) zc_Store_55 ⟨by decide, by decide⟩ (Nat.zero_le _) (Nat.zero_le _) rfl rfl (Nat.le_of_ble_eq_true rfl) dd_Store_isValue_1 (fun r1 => ?_)
  refine zx_ifb_eq E (x := r1) 13 dd_Store_isValue_4 rfl ?_ ?_
  · refine zx_iload_n E 1 dd_Store_isValue_7 rfl rfl ?_
    refine zx_lload_n E 2 dd_Store_isValue_8 rfl rfl ?_
    refine zx_callS_z E [.int a1, .long a2] (fun rZ eZ => zt_Basics_holds _ _ a1 a2 h _ eZ) zc_Store_59 ⟨by decide, by decide⟩ (Nat.zero_le _) (Nat.zero_le _) rfl rfl (Nat.le_of_ble_eq_true rfl) dd_Store_isValue_9 (fun r2 => ?_)
    exact zx_zret E r2 rfl rfl rfl dd_Store_isValue_12
  refine zx_lload_n E 2 dd_Store_isValue_13 rfl rfl ?_
  refine zx_ldc2 E (-1 : Int64) zw_414 dd_Store_isValue_14 ?_
  refine zx_lcmp_ne E 23 dd_Store_isValue_17 dd_Store_isValue_18 rfl ?_ ?_
  · refine zx_iconst E (1 : Int32) dd_Store_isValue_21 (by decide) ?_
    exact zx_zret E true rfl rfl rfl dd_Store_isValue_22
  refine zx_aload_n E 0 dd_Store_isValue_23 rfl rfl ?_
  refine zx_getR E 1 0 zd_Store_types zg_7 Nat.zero_lt_one (zr_Store_types _) zw_233 dd_Store_isValue_24 ?_
  refine zx_iload_n E 1 dd_Store_isValue_27 rfl rfl ?_
  refine zx_callV_z (T := zx_TTypes) E [.int a1] (fun rZ eZ => zt_Types_isEnum _ _ a1 h _ eZ) zg_1 Nat.zero_lt_one rfl zc_Store_64 ⟨by decide, by decide⟩ (Nat.zero_le _) (Nat.zero_le _) rfl rfl (Nat.le_of_ble_eq_true rfl) dd_Store_isValue_28 (fun r3 => ?_)
  refine zx_ifb_eq E (x := r3) 60 dd_Store_isValue_31 rfl ?_ ?_
  · refine zx_lload_n E 2 dd_Store_isValue_34 rfl rfl ?_
    refine zx_lconst E (0 : Int64) dd_Store_isValue_35 rfl ?_
    refine zx_lcmp_lt E 58 dd_Store_isValue_36 dd_Store_isValue_37 rfl ?_ ?_
    rotate_left
    · refine zx_sub [] rfl ?_
      exact zj_Store_isValue_58 E h
    refine zx_lload_n E 2 dd_Store_isValue_40 rfl rfl ?_
    refine zx_aload_n E 0 dd_Store_isValue_41 rfl rfl ?_
    refine zx_getR E 1 0 zd_Store_types zg_7 Nat.zero_lt_one (zr_Store_types _) zw_233 dd_Store_isValue_42 ?_
    refine zx_iload_n E 1 dd_Store_isValue_45 rfl rfl ?_
    refine zx_callV_i (T := zx_TTypes) E [.int a1] (fun rZ eZ => zt_Types_memberCount _ _ a1 h _ eZ) zg_1 Nat.zero_lt_one rfl zc_Store_40 ⟨by decide, by decide⟩ (Nat.zero_le _) (Nat.zero_le _) rfl rfl (Nat.le_of_ble_eq_true rfl) dd_Store_isValue_46 (fun r4 => ?_)
    refine zx_i2l E dd_Store_isValue_49 ?_
    refine zx_lcmp_ge E 58 dd_Store_isValue_50 dd_Store_isValue_51 rfl ?_ ?_
    rotate_left
    · refine zx_sub [] rfl ?_
      exact zj_Store_isValue_58 E h
    refine zx_iconst E (1 : Int32) dd_Store_isValue_54 (by decide) ?_
    refine zx_goto E 59 dd_Store_isValue_55 rfl ?_
    exact zx_zret E true rfl rfl rfl dd_Store_isValue_59
  refine zx_aload_n E 0 dd_Store_isValue_60 rfl rfl ?_
  refine zx_lload_n E 2 dd_Store_isValue_61 rfl rfl ?_
  refine zx_callV_z (T := zx_TStore) E [.long a2] (fun rZ eZ => zt_Store_has _ _ a2 h _ eZ) zg_7 Nat.zero_lt_one rfl zc_Store_67 ⟨by decide, by decide⟩ (Nat.zero_le _) (Nat.zero_le _) rfl rfl (Nat.le_of_ble_eq_true rfl) dd_Store_isValue_62 (fun r5 => ?_)
  refine zx_ifb_eq E (x := r5) 83 dd_Store_isValue_65 rfl ?_ ?_
  rotate_left
  · refine zx_sub [] rfl ?_
    exact zj_Store_isValue_83 E h
  refine zx_aload_n E 0 dd_Store_isValue_68 rfl rfl ?_
  refine zx_getR E 8 0 zd_Store_objectTypes zg_7 Nat.zero_lt_one (zr_Store_objectTypes _) zw_234 dd_Store_isValue_69 ?_
  refine zx_lload_n E 2 dd_Store_isValue_72 rfl rfl ?_
  refine zx_l2i E dd_Store_isValue_73 ?_
  refine zx_iald E zg_8 Nat.zero_lt_one dd_Store_isValue_74 ?_
  refine zx_iload_n E 1 dd_Store_isValue_75 rfl rfl ?_
  refine zx_icmp_ne E 83 dd_Store_isValue_76 rfl ?_ ?_
  rotate_left
  · refine zx_sub [] rfl ?_
    exact zj_Store_isValue_83 E h
  refine zx_iconst E (1 : Int32) dd_Store_isValue_79 (by decide) ?_
  refine zx_goto E 84 dd_Store_isValue_80 rfl ?_
  exact zx_zret E true rfl rfl rfl dd_Store_isValue_84
set_option maxHeartbeats 4000000 in
set_option maxRecDepth 20000 in
theorem zj_Store_set_31 {B : zx_B} (E : zx_E B zm_Store_set)  (x1 : Int32) (x2 : Int32) (x3 : Int64) (s0 : Bool) (h : zx_H) : zx_X B zm_Store_set (zx_QM B (fun r => ((some (Value.int (zx_b r.1)) : Option Value), r.2))) (zs_Store_set_J31  x1 x2 x3 s0 h) 0 0 31 [(0, zx_rV (zx_BK B) 7 0), (1, .int x1), (2, .int x2), (3, .long x3)] [.int (zx_b s0)] h := by
  unfold zs_Store_set_J31
  refine zx_istore E (lv1 := [(5, .int (zx_b s0)), (0, zx_rV (zx_BK B) 7 0), (1, .int x1), (2, .int x2), (3, .long x3)]) dd_Store_set_31 (by decide) rfl ?_
  refine zx_iload E 0 dd_Store_set_33 rfl ?_
  refine zx_ifb_eq E (x := s0) 50 dd_Store_set_35 rfl ?_ ?_
  rotate_left
  · refine zx_iload E 0 dd_Store_set_50 rfl ?_
    exact zx_zret E s0 rfl rfl rfl dd_Store_set_52
  refine zx_aload_n E 1 dd_Store_set_38 rfl rfl ?_
  refine zx_getR E 10 0 zd_Store_cells zg_7 Nat.zero_lt_one (zr_Store_cells _) zw_236 dd_Store_set_39 ?_
  refine zx_iload_n E 2 dd_Store_set_42 rfl rfl ?_
  refine zx_bipush E (24 : Int32) dd_Store_set_43 (by decide) ?_
  refine zx_imul E dd_Store_set_45 ?_
  refine zx_iload_n E 3 dd_Store_set_46 rfl rfl ?_
  refine zx_iadd E dd_Store_set_47 ?_
  refine zx_lload_n E 4 dd_Store_set_48 rfl rfl ?_
  refine zx_last E zg_10 Nat.zero_lt_one dd_Store_set_49 ?_
  refine zx_letH (fun h1 => ?_)
  refine zx_iload E 0 dd_Store_set_50 rfl ?_
  exact zx_zret E s0 rfl rfl rfl dd_Store_set_52
set_option maxHeartbeats 4000000 in
set_option maxRecDepth 20000 in
theorem zj_Store_set_30 {B : zx_B} (E : zx_E B zm_Store_set)  (x1 : Int32) (x2 : Int32) (x3 : Int64) (h : zx_H) : zx_X B zm_Store_set (zx_QM B (fun r => ((some (Value.int (zx_b r.1)) : Option Value), r.2))) (zs_Store_set_J30  x1 x2 x3 h) 0 0 30 [(0, zx_rV (zx_BK B) 7 0), (1, .int x1), (2, .int x2), (3, .long x3)] [] h := by
  unfold zs_Store_set_J30
  refine zx_iconst E (0 : Int32) dd_Store_set_30 (by decide) ?_
  exact zj_Store_set_31 E x1 x2 x3 false h
set_option maxHeartbeats 4000000 in
set_option maxRecDepth 20000 in
theorem zt_Store_set (l : Launch) (K : zx_K) (a1 : Int32) (a2 : Int32) (a3 : Int64) (h : zx_H) (r : (Bool × zx_H)) (hf : zs_Store_set a1 a2 a3 h = some r) : zx_MR l zm_Store_set zy_Store_set K [zx_rV K 7 0, .int a1, .int a2, .long a3] h (some (.int (zx_b r.1))) r.2 := by
  refine zx_ofM (M := zm_Store_set) (y := zy_Store_set) (r := r) (as := [zx_rV K 7 0, .int a1, .int a2, .long a3]) (ρ := (fun r => ((some (Value.int (zx_b r.1)) : Option Value), r.2))) (by decide) rfl hf (Nat.le_of_ble_eq_true rfl) ?_
  intro B hl hK E
  subst hK
  subst hl
  show zx_X B zm_Store_set _ _ 0 0 0 [(0, zx_rV (zx_BK B) 7 0), (1, .int a1), (2, .int a2), (3, .long a3)] [] h
  unfold zs_Store_set
  refine zx_iload_n E 1 dd_Store_set_0 rfl rfl ?_
  refine zx_if_lt E 30 dd_Store_set_1 rfl ?_ ?_
  rotate_left
  · exact zj_Store_set_30 E a1 a2 a3 h
  refine zx_iload_n E 1 dd_Store_set_4 rfl rfl ?_
  refine zx_aload_n E 0 dd_Store_set_5 rfl rfl ?_
  refine zx_getI E zd_Store_size zg_7 Nat.zero_lt_one zw_237 dd_Store_set_6 ?_
  refine zx_icmp_ge E 30 dd_Store_set_9 rfl ?_ ?_
  rotate_left
  · exact zj_Store_set_30 E a1 a2 a3 h
  refine zx_iload_n E 2 dd_Store_set_12 rfl rfl ?_
  refine zx_if_lt E 30 dd_Store_set_13 rfl ?_ ?_
  rotate_left
  · exact zj_Store_set_30 E a1 a2 a3 h
  refine zx_iload_n E 2 dd_Store_set_16 rfl rfl ?_
  refine zx_aload_n E 0 dd_Store_set_17 rfl rfl ?_
  refine zx_getR E 9 0 zd_Store_lengths zg_7 Nat.zero_lt_one (zr_Store_lengths _) zw_235 dd_Store_set_18 ?_
  refine zx_iload_n E 1 dd_Store_set_21 rfl rfl ?_
  refine zx_iald E zg_9 Nat.zero_lt_one dd_Store_set_22 ?_
  refine zx_icmp_ge E 30 dd_Store_set_23 rfl ?_ ?_
  rotate_left
  · exact zj_Store_set_30 E a1 a2 a3 h
  refine zx_iconst E (1 : Int32) dd_Store_set_26 (by decide) ?_
  refine zx_goto E 31 dd_Store_set_27 rfl ?_
  exact zj_Store_set_31 E a1 a2 a3 true h
set_option maxHeartbeats 4000000 in
set_option maxRecDepth 20000 in
theorem zj_Types_isList_28 {B : zx_B} (E : zx_E B zm_Types_isList) (h : zx_H)   : zx_X B zm_Types_isList (zx_QM B (fun r => ((some (Value.int (zx_b r)) : Option Value), h))) (zs_Types_isList_J28 h  ) 0 0 28 [] [] h := by
  unfold zs_Types_isList_J28
  refine zx_iconst E (0 : Int32) dd_Types_isList_28 (by decide) ?_
  exact zx_zret E false rfl rfl rfl dd_Types_isList_29
set_option maxHeartbeats 4000000 in
set_option maxRecDepth 20000 in
theorem zt_Types_isList (l : Launch) (K : zx_K) (a1 : Int32) (h : zx_H) (r : Bool) (hf : zs_Types_isList a1 h = some r) : zx_MR l zm_Types_isList zy_Types_isList K [zx_rV K 1 0, .int a1] h (some (.int (zx_b r))) h := by
  refine zx_ofM (M := zm_Types_isList) (y := zy_Types_isList) (r := r) (as := [zx_rV K 1 0, .int a1]) (ρ := (fun r => ((some (Value.int (zx_b r)) : Option Value), h))) (by decide) rfl hf (Nat.le_of_ble_eq_true rfl) ?_
  intro B hl hK E
  subst hK
  subst hl
  show zx_X B zm_Types_isList _ _ 0 0 0 [(0, zx_rV (zx_BK B) 1 0), (1, .int a1)] [] h
  unfold zs_Types_isList
  refine zx_iload_n E 1 dd_Types_isList_0 rfl rfl ?_
  refine zx_bipush E (15 : Int32) dd_Types_isList_1 (by decide) ?_
  refine zx_icmp_lt E 28 dd_Types_isList_3 rfl ?_ ?_
  rotate_left
  · refine zx_sub [] rfl ?_
    exact zj_Types_isList_28 E h
  refine zx_iload_n E 1 dd_Types_isList_6 rfl rfl ?_
  refine zx_aload_n E 0 dd_Types_isList_7 rfl rfl ?_
  refine zx_getI E zd_Types_size zg_1 Nat.zero_lt_one zw_46 dd_Types_isList_8 ?_
  refine zx_icmp_ge E 28 dd_Types_isList_11 rfl ?_ ?_
  rotate_left
  · refine zx_sub [] rfl ?_
    exact zj_Types_isList_28 E h
  refine zx_aload_n E 0 dd_Types_isList_14 rfl rfl ?_
  refine zx_getR E 2 0 zd_Types_forms zg_1 Nat.zero_lt_one (zr_Types_forms _) zw_41 dd_Types_isList_15 ?_
  refine zx_iload_n E 1 dd_Types_isList_18 rfl rfl ?_
  refine zx_iald E zg_2 Nat.zero_lt_one dd_Types_isList_19 ?_
  refine zx_iconst E (3 : Int32) dd_Types_isList_20 (by decide) ?_
  refine zx_icmp_ne E 28 dd_Types_isList_21 rfl ?_ ?_
  rotate_left
  · refine zx_sub [] rfl ?_
    exact zj_Types_isList_28 E h
  refine zx_iconst E (1 : Int32) dd_Types_isList_24 (by decide) ?_
  refine zx_goto E 29 dd_Types_isList_25 rfl ?_
  exact zx_zret E true rfl rfl rfl dd_Types_isList_29
set_option maxHeartbeats 4000000 in
set_option maxRecDepth 20000 in
theorem zj_Store_length_21 {B : zx_B} (E : zx_E B zm_Store_length) (h : zx_H)   : zx_X B zm_Store_length (zx_QM B (fun r => ((some (Value.int r) : Option Value), h))) (zs_Store_length_J21 h  ) 0 0 21 [] [] h := by
  unfold zs_Store_length_J21
  refine zx_iconst E (0 : Int32) dd_Store_length_21 (by decide) ?_
  exact zx_iret E rfl rfl dd_Store_length_22
set_option maxHeartbeats 4000000 in
set_option maxRecDepth 20000 in
theorem zt_Store_length (l : Launch) (K : zx_K) (a1 : Int32) (h : zx_H) (r : Int32) (hf : zs_Store_length a1 h = some r) : zx_MR l zm_Store_length zy_Store_length K [zx_rV K 7 0, .int a1] h (some (.int r)) h := by
  refine zx_ofM (M := zm_Store_length) (y := zy_Store_length) (r := r) (as := [zx_rV K 7 0, .int a1]) (ρ := (fun r => ((some (Value.int r) : Option Value), h))) (by decide) rfl hf (Nat.le_of_ble_eq_true rfl) ?_
  intro B hl hK E
  subst hK
  subst hl
  show zx_X B zm_Store_length _ _ 0 0 0 [(0, zx_rV (zx_BK B) 7 0), (1, .int a1)] [] h
  unfold zs_Store_length
  refine zx_iload_n E 1 dd_Store_length_0 rfl rfl ?_
  refine zx_if_lt E 21 dd_Store_length_1 rfl ?_ ?_
  rotate_left
  · refine zx_sub [] rfl ?_
    exact zj_Store_length_21 E h
  refine zx_iload_n E 1 dd_Store_length_4 rfl rfl ?_
  refine zx_aload_n E 0 dd_Store_length_5 rfl rfl ?_
  refine zx_getI E zd_Store_size zg_7 Nat.zero_lt_one zw_237 dd_Store_length_6 ?_
  refine zx_icmp_ge E 21 dd_Store_length_9 rfl ?_ ?_
  rotate_left
  · refine zx_sub [] rfl ?_
    exact zj_Store_length_21 E h
  refine zx_aload_n E 0 dd_Store_length_12 rfl rfl ?_
  refine zx_getR E 9 0 zd_Store_lengths zg_7 Nat.zero_lt_one (zr_Store_lengths _) zw_235 dd_Store_length_13 ?_
  refine zx_iload_n E 1 dd_Store_length_16 rfl rfl ?_
  refine zx_iald E zg_9 Nat.zero_lt_one dd_Store_length_17 ?_
  refine zx_goto E 22 dd_Store_length_18 rfl ?_
  exact zx_iret E rfl rfl dd_Store_length_22
set_option maxHeartbeats 4000000 in
set_option maxRecDepth 20000 in
theorem zj_Types_element_21 {B : zx_B} (E : zx_E B zm_Types_element) (h : zx_H)   : zx_X B zm_Types_element (zx_QM B (fun r => ((some (Value.int r) : Option Value), h))) (zs_Types_element_J21 h  ) 0 0 21 [] [] h := by
  unfold zs_Types_element_J21
  refine zx_iconst E (-1 : Int32) dd_Types_element_21 (by decide) ?_
  exact zx_iret E rfl rfl dd_Types_element_22
set_option maxHeartbeats 4000000 in
set_option maxRecDepth 20000 in
theorem zt_Types_element (l : Launch) (K : zx_K) (a1 : Int32) (h : zx_H) (r : Int32) (hf : zs_Types_element a1 h = some r) : zx_MR l zm_Types_element zy_Types_element K [zx_rV K 1 0, .int a1] h (some (.int r)) h := by
  refine zx_ofM (M := zm_Types_element) (y := zy_Types_element) (r := r) (as := [zx_rV K 1 0, .int a1]) (ρ := (fun r => ((some (Value.int r) : Option Value), h))) (by decide) rfl hf (Nat.le_of_ble_eq_true rfl) ?_
  intro B hl hK E
  subst hK
  subst hl
  show zx_X B zm_Types_element _ _ 0 0 0 [(0, zx_rV (zx_BK B) 1 0), (1, .int a1)] [] h
  unfold zs_Types_element
  refine zx_iload_n E 1 dd_Types_element_0 rfl rfl ?_
  refine zx_if_lt E 21 dd_Types_element_1 rfl ?_ ?_
  rotate_left
  · refine zx_sub [] rfl ?_
    exact zj_Types_element_21 E h
  refine zx_iload_n E 1 dd_Types_element_4 rfl rfl ?_
  refine zx_aload_n E 0 dd_Types_element_5 rfl rfl ?_
  refine zx_getI E zd_Types_size zg_1 Nat.zero_lt_one zw_46 dd_Types_element_6 ?_
  refine zx_icmp_ge E 21 dd_Types_element_9 rfl ?_ ?_
  rotate_left
  · refine zx_sub [] rfl ?_
    exact zj_Types_element_21 E h
  refine zx_aload_n E 0 dd_Types_element_12 rfl rfl ?_
  refine zx_getR E 3 0 zd_Types_elements zg_1 Nat.zero_lt_one (zr_Types_elements _) zw_42 dd_Types_element_13 ?_
  refine zx_iload_n E 1 dd_Types_element_16 rfl rfl ?_
  refine zx_iald E zg_3 Nat.zero_lt_one dd_Types_element_17 ?_
  refine zx_goto E 22 dd_Types_element_18 rfl ?_
  exact zx_iret E rfl rfl dd_Types_element_22
set_option maxHeartbeats 4000000 in
set_option maxRecDepth 20000 in
theorem zt_Store_append (l : Launch) (K : zx_K) (a1 : Int32) (a2 : Int64) (h : zx_H) (r : (Bool × zx_H)) (hf : zs_Store_append a1 a2 h = some r) : zx_MR l zm_Store_append zy_Store_append K [zx_rV K 7 0, .int a1, .long a2] h (some (.int (zx_b r.1))) r.2 := by
  refine zx_ofM (M := zm_Store_append) (y := zy_Store_append) (r := r) (as := [zx_rV K 7 0, .int a1, .long a2]) (ρ := (fun r => ((some (Value.int (zx_b r.1)) : Option Value), r.2))) (by decide) rfl hf (Nat.le_of_ble_eq_true rfl) ?_
  intro B hl hK E
  subst hK
  subst hl
  show zx_X B zm_Store_append _ _ 0 0 0 [(0, zx_rV (zx_BK B) 7 0), (1, .int a1), (2, .long a2)] [] h
  unfold zs_Store_append
  refine zx_iload_n E 1 dd_Store_append_0 rfl rfl ?_
  refine zx_if_lt E 23 dd_Store_append_1 rfl ?_ ?_
  rotate_left
  · refine zx_iconst E (0 : Int32) dd_Store_append_23 (by decide) ?_
    exact zx_zret E false rfl rfl rfl dd_Store_append_24
  refine zx_iload_n E 1 dd_Store_append_4 rfl rfl ?_
  refine zx_aload_n E 0 dd_Store_append_5 rfl rfl ?_
  refine zx_getI E zd_Store_size zg_7 Nat.zero_lt_one zw_237 dd_Store_append_6 ?_
  refine zx_icmp_ge E 23 dd_Store_append_9 rfl ?_ ?_
  rotate_left
  · refine zx_iconst E (0 : Int32) dd_Store_append_23 (by decide) ?_
    exact zx_zret E false rfl rfl rfl dd_Store_append_24
  refine zx_aload_n E 0 dd_Store_append_12 rfl rfl ?_
  refine zx_getR E 9 0 zd_Store_lengths zg_7 Nat.zero_lt_one (zr_Store_lengths _) zw_235 dd_Store_append_13 ?_
  refine zx_iload_n E 1 dd_Store_append_16 rfl rfl ?_
  refine zx_iald E zg_9 Nat.zero_lt_one dd_Store_append_17 ?_
  refine zx_bipush E (24 : Int32) dd_Store_append_18 (by decide) ?_
  refine zx_icmp_lt E 25 dd_Store_append_20 rfl ?_ ?_
  · refine zx_iconst E (0 : Int32) dd_Store_append_23 (by decide) ?_
    exact zx_zret E false rfl rfl rfl dd_Store_append_24
  refine zx_aload_n E 0 dd_Store_append_25 rfl rfl ?_
  refine zx_getR E 10 0 zd_Store_cells zg_7 Nat.zero_lt_one (zr_Store_cells _) zw_236 dd_Store_append_26 ?_
  refine zx_iload_n E 1 dd_Store_append_29 rfl rfl ?_
  refine zx_bipush E (24 : Int32) dd_Store_append_30 (by decide) ?_
  refine zx_imul E dd_Store_append_32 ?_
  refine zx_aload_n E 0 dd_Store_append_33 rfl rfl ?_
  refine zx_getR E 9 0 zd_Store_lengths zg_7 Nat.zero_lt_one (zr_Store_lengths _) zw_235 dd_Store_append_34 ?_
  refine zx_iload_n E 1 dd_Store_append_37 rfl rfl ?_
  refine zx_iald E zg_9 Nat.zero_lt_one dd_Store_append_38 ?_
  refine zx_iadd E dd_Store_append_39 ?_
  refine zx_lload_n E 2 dd_Store_append_40 rfl rfl ?_
  refine zx_last E zg_10 Nat.zero_lt_one dd_Store_append_41 ?_
  refine zx_letH (fun h1 => ?_)
  refine zx_aload_n E 0 dd_Store_append_42 rfl rfl ?_
  refine zx_getR E 9 0 zd_Store_lengths zg_7 Nat.zero_lt_one (zr_Store_lengths _) zw_235 dd_Store_append_43 ?_
  refine zx_iload_n E 1 dd_Store_append_46 rfl rfl ?_
  refine zx_dup2 E dd_Store_append_47 rfl rfl ?_
  refine zx_iald E zg_9 Nat.zero_lt_one dd_Store_append_48 ?_
  refine zx_iconst E (1 : Int32) dd_Store_append_49 (by decide) ?_
  refine zx_iadd E dd_Store_append_50 ?_
  refine zx_iast E zg_9 Nat.zero_lt_one dd_Store_append_51 ?_
  refine zx_letH (fun h2 => ?_)
  refine zx_iconst E (1 : Int32) dd_Store_append_52 (by decide) ?_
  exact zx_zret E true rfl rfl rfl dd_Store_append_53
set_option maxHeartbeats 4000000 in
set_option maxRecDepth 20000 in
theorem zj_Loom_put_72 {B : zx_B} (E : zx_E B zm_Loom_put)   (h : zx_H) : zx_X B zm_Loom_put (zx_QM B (fun r => ((some (Value.int (zx_b r.1)) : Option Value), r.2))) (zs_Loom_put_J72  h) 0 0 72 [] [] h := by
  unfold zs_Loom_put_J72
  refine zx_iconst E (0 : Int32) dd_Loom_put_72 (by decide) ?_
  exact zx_zret E false rfl rfl rfl dd_Loom_put_73
set_option maxHeartbeats 4000000 in
set_option maxRecDepth 20000 in
theorem zj_Loom_put_135 {B : zx_B} (E : zx_E B zm_Loom_put)   (h : zx_H) : zx_X B zm_Loom_put (zx_QM B (fun r => ((some (Value.int (zx_b r.1)) : Option Value), r.2))) (zs_Loom_put_J135  h) 0 0 135 [] [] h := by
  unfold zs_Loom_put_J135
  refine zx_iconst E (0 : Int32) dd_Loom_put_135 (by decide) ?_
  exact zx_zret E false rfl rfl rfl dd_Loom_put_136
set_option maxHeartbeats 4000000 in
set_option maxRecDepth 20000 in
theorem zt_Loom_put (l : Launch) (K : zx_K) (a1 : Int32) (a2 : Int32) (a3 : Int64) (h : zx_H) (r : (Bool × zx_H)) (hf : zs_Loom_put a1 a2 a3 h = some r) : zx_MR l zm_Loom_put zy_Loom_put K [zx_rV K 0 0, .int a1, .int a2, .long a3] h (some (.int (zx_b r.1))) r.2 := by
  refine zx_ofM (M := zm_Loom_put) (y := zy_Loom_put) (r := r) (as := [zx_rV K 0 0, .int a1, .int a2, .long a3]) (ρ := (fun r => ((some (Value.int (zx_b r.1)) : Option Value), r.2))) (by decide) rfl hf (Nat.le_of_ble_eq_true rfl) ?_
  intro B hl hK E
  subst hK
  subst hl
  show zx_X B zm_Loom_put _ _ 0 0 0 [(0, zx_rV (zx_BK B) 0 0), (1, .int a1), (2, .int a2), (3, .long a3)] [] h
  unfold zs_Loom_put
  refine zx_aload_n E 0 dd_Loom_put_0 rfl rfl ?_
  refine zx_getR E 7 0 zd_Loom_store zg_0 Nat.zero_lt_one (zr_Loom_store _) zw_357 dd_Loom_put_1 ?_
  refine zx_iload_n E 1 dd_Loom_put_4 rfl rfl ?_
  refine zx_callV_i (T := zx_TStore) E [.int a1] (fun rZ eZ => zt_Store_typeOf _ _ a1 h _ eZ) zg_7 Nat.zero_lt_one rfl zc_Loom_220 ⟨by decide, by decide⟩ (Nat.zero_le _) (Nat.zero_le _) rfl rfl (Nat.le_of_ble_eq_true rfl) dd_Loom_put_5 (fun r1 => ?_)
  refine zx_istore E (lv1 := [(5, .int r1), (0, zx_rV (zx_BK B) 0 0), (1, .int a1), (2, .int a2), (3, .long a3)]) dd_Loom_put_8 (by decide) rfl ?_
  refine zx_aload_n E 1 dd_Loom_put_10 rfl rfl ?_
  refine zx_getR E 1 0 zd_Loom_types zg_0 Nat.zero_lt_one (zr_Loom_types _) zw_355 dd_Loom_put_11 ?_
  refine zx_iload E 0 dd_Loom_put_14 rfl ?_
  refine zx_callV_z (T := zx_TTypes) E [.int r1] (fun rZ eZ => zt_Types_isBean _ _ r1 h _ eZ) zg_1 Nat.zero_lt_one rfl zc_Loom_91 ⟨by decide, by decide⟩ (Nat.zero_le _) (Nat.zero_le _) rfl rfl (Nat.le_of_ble_eq_true rfl) dd_Loom_put_16 (fun r2 => ?_)
  refine zx_ifb_eq E (x := r2) 74 dd_Loom_put_19 rfl ?_ ?_
  · refine zx_aload_n E 1 dd_Loom_put_22 rfl rfl ?_
    refine zx_getR E 7 0 zd_Loom_store zg_0 Nat.zero_lt_one (zr_Loom_store _) zw_357 dd_Loom_put_23 ?_
    refine zx_iload_n E 2 dd_Loom_put_26 rfl rfl ?_
    refine zx_iload_n E 3 dd_Loom_put_27 rfl rfl ?_
    refine zx_callV_z (T := zx_TStore) E [.int a1, .int a2] (fun rZ eZ => zt_Store_hasPlace _ _ a1 a2 h _ eZ) zg_7 Nat.zero_lt_one rfl zc_Loom_223 ⟨by decide, by decide⟩ (Nat.zero_le _) (Nat.zero_le _) rfl rfl (Nat.le_of_ble_eq_true rfl) dd_Loom_put_28 (fun r3 => ?_)
    refine zx_ifb_eq E (x := r3) 72 dd_Loom_put_31 rfl ?_ ?_
    rotate_left
    · refine zx_sub [] rfl ?_
      exact zj_Loom_put_72 E h
    refine zx_aload_n E 1 dd_Loom_put_34 rfl rfl ?_
    refine zx_getR E 7 0 zd_Loom_store zg_0 Nat.zero_lt_one (zr_Loom_store _) zw_357 dd_Loom_put_35 ?_
    refine zx_aload_n E 1 dd_Loom_put_38 rfl rfl ?_
    refine zx_getR E 1 0 zd_Loom_types zg_0 Nat.zero_lt_one (zr_Loom_types _) zw_355 dd_Loom_put_39 ?_
    refine zx_iload E 0 dd_Loom_put_42 rfl ?_
    refine zx_iload_n E 3 dd_Loom_put_44 rfl rfl ?_
    refine zx_callV_i (T := zx_TTypes) E [.int r1, .int a2] (fun rZ eZ => zt_Types_typeAt _ _ r1 a2 h _ eZ) zg_1 Nat.zero_lt_one rfl zc_Loom_227 ⟨by decide, by decide⟩ (Nat.zero_le _) (Nat.zero_le _) rfl rfl (Nat.le_of_ble_eq_true rfl) dd_Loom_put_45 (fun r4 => ?_)
    refine zx_lload_n E 4 dd_Loom_put_48 rfl rfl ?_
    refine zx_callV_z (T := zx_TStore) E [.int r4, .long a3] (fun rZ eZ => zt_Store_isValue _ _ r4 a3 h _ eZ) zg_7 Nat.zero_lt_one rfl zc_Loom_230 ⟨by decide, by decide⟩ (Nat.zero_le _) (Nat.zero_le _) rfl rfl (Nat.le_of_ble_eq_true rfl) dd_Loom_put_49 (fun r5 => ?_)
    refine zx_ifb_eq E (x := r5) 72 dd_Loom_put_52 rfl ?_ ?_
    rotate_left
    · refine zx_sub [] rfl ?_
      exact zj_Loom_put_72 E h
    refine zx_aload_n E 1 dd_Loom_put_55 rfl rfl ?_
    refine zx_getR E 7 0 zd_Loom_store zg_0 Nat.zero_lt_one (zr_Loom_store _) zw_357 dd_Loom_put_56 ?_
    refine zx_iload_n E 2 dd_Loom_put_59 rfl rfl ?_
    refine zx_iload_n E 3 dd_Loom_put_60 rfl rfl ?_
    refine zx_lload_n E 4 dd_Loom_put_61 rfl rfl ?_
    refine zx_callV_zw (T := zx_TStore) E [.int a1, .int a2, .long a3] (fun rZ eZ => zt_Store_set _ _ a1 a2 a3 h _ eZ) zg_7 Nat.zero_lt_one rfl zc_Loom_233 ⟨by decide, by decide⟩ (Nat.zero_le _) (Nat.zero_le _) rfl rfl (Nat.le_of_ble_eq_true rfl) dd_Loom_put_62 (fun r6 => ?_)
    refine zx_ifb_eq E (x := r6.1) 72 dd_Loom_put_65 rfl ?_ ?_
    rotate_left
    · refine zx_sub [] rfl ?_
      exact zj_Loom_put_72 E r6.2
    refine zx_iconst E (1 : Int32) dd_Loom_put_68 (by decide) ?_
    refine zx_goto E 73 dd_Loom_put_69 rfl ?_
    exact zx_zret E true rfl rfl rfl dd_Loom_put_73
  refine zx_aload_n E 1 dd_Loom_put_74 rfl rfl ?_
  refine zx_getR E 1 0 zd_Loom_types zg_0 Nat.zero_lt_one (zr_Loom_types _) zw_355 dd_Loom_put_75 ?_
  refine zx_iload E 0 dd_Loom_put_78 rfl ?_
  refine zx_callV_z (T := zx_TTypes) E [.int r1] (fun rZ eZ => zt_Types_isList _ _ r1 h _ eZ) zg_1 Nat.zero_lt_one rfl zc_Loom_192 ⟨by decide, by decide⟩ (Nat.zero_le _) (Nat.zero_le _) rfl rfl (Nat.le_of_ble_eq_true rfl) dd_Loom_put_80 (fun r7 => ?_)
  refine zx_ifb_eq E (x := r7) 135 dd_Loom_put_83 rfl ?_ ?_
  rotate_left
  · refine zx_sub [] rfl ?_
    exact zj_Loom_put_135 E h
  refine zx_aload_n E 1 dd_Loom_put_86 rfl rfl ?_
  refine zx_getR E 7 0 zd_Loom_store zg_0 Nat.zero_lt_one (zr_Loom_store _) zw_357 dd_Loom_put_87 ?_
  refine zx_iload_n E 2 dd_Loom_put_90 rfl rfl ?_
  refine zx_callV_i (T := zx_TStore) E [.int a1] (fun rZ eZ => zt_Store_length _ _ a1 h _ eZ) zg_7 Nat.zero_lt_one rfl zc_Loom_237 ⟨by decide, by decide⟩ (Nat.zero_le _) (Nat.zero_le _) rfl rfl (Nat.le_of_ble_eq_true rfl) dd_Loom_put_91 (fun r8 => ?_)
  refine zx_bipush E (16 : Int32) dd_Loom_put_94 (by decide) ?_
  refine zx_icmp_ge E 135 dd_Loom_put_96 rfl ?_ ?_
  rotate_left
  · refine zx_sub [] rfl ?_
    exact zj_Loom_put_135 E h
  refine zx_aload_n E 1 dd_Loom_put_99 rfl rfl ?_
  refine zx_getR E 7 0 zd_Loom_store zg_0 Nat.zero_lt_one (zr_Loom_store _) zw_357 dd_Loom_put_100 ?_
  refine zx_aload_n E 1 dd_Loom_put_103 rfl rfl ?_
  refine zx_getR E 1 0 zd_Loom_types zg_0 Nat.zero_lt_one (zr_Loom_types _) zw_355 dd_Loom_put_104 ?_
  refine zx_iload E 0 dd_Loom_put_107 rfl ?_
  refine zx_callV_i (T := zx_TTypes) E [.int r1] (fun rZ eZ => zt_Types_element _ _ r1 h _ eZ) zg_1 Nat.zero_lt_one rfl zc_Loom_240 ⟨by decide, by decide⟩ (Nat.zero_le _) (Nat.zero_le _) rfl rfl (Nat.le_of_ble_eq_true rfl) dd_Loom_put_109 (fun r9 => ?_)
  refine zx_lload_n E 4 dd_Loom_put_112 rfl rfl ?_
  refine zx_callV_z (T := zx_TStore) E [.int r9, .long a3] (fun rZ eZ => zt_Store_isValue _ _ r9 a3 h _ eZ) zg_7 Nat.zero_lt_one rfl zc_Loom_230 ⟨by decide, by decide⟩ (Nat.zero_le _) (Nat.zero_le _) rfl rfl (Nat.le_of_ble_eq_true rfl) dd_Loom_put_113 (fun r10 => ?_)
  refine zx_ifb_eq E (x := r10) 135 dd_Loom_put_116 rfl ?_ ?_
  rotate_left
  · refine zx_sub [] rfl ?_
    exact zj_Loom_put_135 E h
  refine zx_aload_n E 1 dd_Loom_put_119 rfl rfl ?_
  refine zx_getR E 7 0 zd_Loom_store zg_0 Nat.zero_lt_one (zr_Loom_store _) zw_357 dd_Loom_put_120 ?_
  refine zx_iload_n E 2 dd_Loom_put_123 rfl rfl ?_
  refine zx_lload_n E 4 dd_Loom_put_124 rfl rfl ?_
  refine zx_callV_zw (T := zx_TStore) E [.int a1, .long a3] (fun rZ eZ => zt_Store_append _ _ a1 a3 h _ eZ) zg_7 Nat.zero_lt_one rfl zc_Loom_213 ⟨by decide, by decide⟩ (Nat.zero_le _) (Nat.zero_le _) rfl rfl (Nat.le_of_ble_eq_true rfl) dd_Loom_put_125 (fun r11 => ?_)
  refine zx_ifb_eq E (x := r11.1) 135 dd_Loom_put_128 rfl ?_ ?_
  rotate_left
  · refine zx_sub [] rfl ?_
    exact zj_Loom_put_135 E r11.2
  refine zx_iconst E (1 : Int32) dd_Loom_put_131 (by decide) ?_
  refine zx_goto E 136 dd_Loom_put_132 rfl ?_
  exact zx_zret E true rfl rfl rfl dd_Loom_put_136
set_option maxHeartbeats 4000000 in
set_option maxRecDepth 20000 in
theorem zt_Types_size (l : Launch) (K : zx_K)  (h : zx_H) (r : Int32) (hf : zs_Types_size  h = some r) : zx_MR l zm_Types_size zy_Types_size K [zx_rV K 1 0] h (some (.int r)) h := by
  refine zx_ofM (M := zm_Types_size) (y := zy_Types_size) (r := r) (as := [zx_rV K 1 0]) (ρ := (fun r => ((some (Value.int r) : Option Value), h))) (by decide) rfl hf (Nat.le_of_ble_eq_true rfl) ?_
  intro B hl hK E
  subst hK
  subst hl
  show zx_X B zm_Types_size _ _ 0 0 0 [(0, zx_rV (zx_BK B) 1 0)] [] h
  unfold zs_Types_size
  refine zx_aload_n E 0 dd_Types_size_0 rfl rfl ?_
  refine zx_getI E zd_Types_size zg_1 Nat.zero_lt_one zw_46 dd_Types_size_1 ?_
  exact zx_iret E rfl rfl dd_Types_size_4
set_option maxHeartbeats 4000000 in
set_option maxRecDepth 20000 in
theorem zt_Store_size (l : Launch) (K : zx_K)  (h : zx_H) (r : Int32) (hf : zs_Store_size  h = some r) : zx_MR l zm_Store_size zy_Store_size K [zx_rV K 7 0] h (some (.int r)) h := by
  refine zx_ofM (M := zm_Store_size) (y := zy_Store_size) (r := r) (as := [zx_rV K 7 0]) (ρ := (fun r => ((some (Value.int r) : Option Value), h))) (by decide) rfl hf (Nat.le_of_ble_eq_true rfl) ?_
  intro B hl hK E
  subst hK
  subst hl
  show zx_X B zm_Store_size _ _ 0 0 0 [(0, zx_rV (zx_BK B) 7 0)] [] h
  unfold zs_Store_size
  refine zx_aload_n E 0 dd_Store_size_0 rfl rfl ?_
  refine zx_getI E zd_Store_size zg_7 Nat.zero_lt_one zw_237 dd_Store_size_1 ?_
  exact zx_iret E rfl rfl dd_Store_size_4
set_option maxHeartbeats 4000000 in
set_option maxRecDepth 20000 in
theorem zt_Loom_count (l : Launch) (K : zx_K) (a1 : Int32) (h : zx_H) (r : Int32) (hf : zs_Loom_count a1 h = some r) : zx_MR l zm_Loom_count zy_Loom_count K [zx_rV K 0 0, .int a1] h (some (.int r)) h := by
  refine zx_ofM (M := zm_Loom_count) (y := zy_Loom_count) (r := r) (as := [zx_rV K 0 0, .int a1]) (ρ := (fun r => ((some (Value.int r) : Option Value), h))) (by decide) rfl hf (Nat.le_of_ble_eq_true rfl) ?_
  intro B hl hK E
  subst hK
  subst hl
  show zx_X B zm_Loom_count _ _ 0 0 0 [(0, zx_rV (zx_BK B) 0 0), (1, .int a1)] [] h
  unfold zs_Loom_count
  refine zx_iload_n E 1 dd_Loom_count_0 rfl rfl ?_
  refine zx_tsw E [36, 44, 52, 60, 68] 81 dd_Loom_count_1 (by decide) rfl (zx_keys _ _ [0, 1, 2, 3, 4] rfl (by decide)) rfl (by decide) (by decide) ?_ ⟨?_, ?_, ?_, ?_, ?_, trivial⟩
  · refine zx_iconst E (-1 : Int32) dd_Loom_count_81 (by decide) ?_
    exact zx_iret E rfl rfl dd_Loom_count_82
  · refine zx_aload_n E 0 dd_Loom_count_36 rfl rfl ?_
    refine zx_getR E 1 0 zd_Loom_types zg_0 Nat.zero_lt_one (zr_Loom_types _) zw_355 dd_Loom_count_37 ?_
    refine zx_callV_i (T := zx_TTypes) E [] (fun rZ eZ => zt_Types_size _ _ h _ eZ) zg_1 Nat.zero_lt_one rfl zc_Loom_280 ⟨by decide, by decide⟩ (Nat.zero_le _) (Nat.zero_le _) rfl rfl (Nat.le_of_ble_eq_true rfl) dd_Loom_count_40 (fun r1 => ?_)
    exact zx_iret E rfl rfl dd_Loom_count_43
  · refine zx_aload_n E 0 dd_Loom_count_44 rfl rfl ?_
    refine zx_getR E 11 0 zd_Loom_model zg_0 Nat.zero_lt_one (zr_Loom_model _) zw_356 dd_Loom_count_45 ?_
    refine zx_getI E zd_Model_methodCount zg_11 Nat.zero_lt_one zw_217 dd_Loom_count_48 ?_
    exact zx_iret E rfl rfl dd_Loom_count_51
  · refine zx_aload_n E 0 dd_Loom_count_52 rfl rfl ?_
    refine zx_getR E 11 0 zd_Loom_model zg_0 Nat.zero_lt_one (zr_Loom_model _) zw_356 dd_Loom_count_53 ?_
    refine zx_getI E zd_Model_functionCount zg_11 Nat.zero_lt_one zw_213 dd_Loom_count_56 ?_
    exact zx_iret E rfl rfl dd_Loom_count_59
  · refine zx_aload_n E 0 dd_Loom_count_60 rfl rfl ?_
    refine zx_getR E 7 0 zd_Loom_store zg_0 Nat.zero_lt_one (zr_Loom_store _) zw_357 dd_Loom_count_61 ?_
    refine zx_callV_i (T := zx_TStore) E [] (fun rZ eZ => zt_Store_size _ _ h _ eZ) zg_7 Nat.zero_lt_one rfl zc_Loom_108 ⟨by decide, by decide⟩ (Nat.zero_le _) (Nat.zero_le _) rfl rfl (Nat.le_of_ble_eq_true rfl) dd_Loom_count_64 (fun r2 => ?_)
    exact zx_iret E rfl rfl dd_Loom_count_67
  · refine zx_aload_n E 0 dd_Loom_count_68 rfl rfl ?_
    refine zx_getI E zd_Loom_built zg_0 Nat.zero_lt_one zw_360 dd_Loom_count_69 ?_
    refine zx_if_eq E 79 dd_Loom_count_72 rfl ?_ ?_
    rotate_left
    · refine zx_iconst E (0 : Int32) dd_Loom_count_79 (by decide) ?_
      exact zx_iret E rfl rfl dd_Loom_count_80
    refine zx_iconst E (1 : Int32) dd_Loom_count_75 (by decide) ?_
    refine zx_goto E 80 dd_Loom_count_76 rfl ?_
    exact zx_iret E rfl rfl dd_Loom_count_80
set_option maxHeartbeats 4000000 in
set_option maxRecDepth 20000 in
theorem zt_Ref_thrown (l : Launch) (K : zx_K)  (h : zx_H) (r : Int32) (hf : zs_Ref_thrown  h = some r) : zx_MR l zm_Ref_thrown zy_Ref_thrown K [zx_rV K 24 0] h (some (.int r)) h := by
  refine zx_ofM (M := zm_Ref_thrown) (y := zy_Ref_thrown) (r := r) (as := [zx_rV K 24 0]) (ρ := (fun r => ((some (Value.int r) : Option Value), h))) (by decide) rfl hf (Nat.le_of_ble_eq_true rfl) ?_
  intro B hl hK E
  subst hK
  subst hl
  show zx_X B zm_Ref_thrown _ _ 0 0 0 [(0, zx_rV (zx_BK B) 24 0)] [] h
  unfold zs_Ref_thrown
  refine zx_aload_n E 0 dd_Ref_thrown_0 rfl rfl ?_
  refine zx_getI E zd_Ref_thrown zg_24 Nat.zero_lt_one zw_1107 dd_Ref_thrown_1 ?_
  exact zx_iret E rfl rfl dd_Ref_thrown_4
set_option maxHeartbeats 4000000 in
set_option maxRecDepth 20000 in
theorem zt_Ref_fails (l : Launch) (K : zx_K) (a1 : Int32) (h : zx_H) (r : (Int32 × zx_H)) (hf : zs_Ref_fails a1 h = some r) : zx_MR l zm_Ref_fails zy_Ref_fails K [zx_rV K 24 0, .int a1] h (some (.int r.1)) r.2 := by
  refine zx_ofM (M := zm_Ref_fails) (y := zy_Ref_fails) (r := r) (as := [zx_rV K 24 0, .int a1]) (ρ := (fun r => ((some (Value.int r.1) : Option Value), r.2))) (by decide) rfl hf (Nat.le_of_ble_eq_true rfl) ?_
  intro B hl hK E
  subst hK
  subst hl
  show zx_X B zm_Ref_fails _ _ 0 0 0 [(0, zx_rV (zx_BK B) 24 0), (1, .int a1)] [] h
  unfold zs_Ref_fails
  refine zx_aload_n E 0 dd_Ref_fails_0 rfl rfl ?_
  refine zx_iload_n E 1 dd_Ref_fails_1 rfl rfl ?_
  refine zx_putI E zd_Ref_thrown zp_Ref_thrown zg_24 Nat.zero_lt_one rfl rfl zw_1107 dd_Ref_fails_2 ?_
  refine zx_letH (fun h1 => ?_)
  refine zx_iconst E (0 : Int32) dd_Ref_fails_5 (by decide) ?_
  exact zx_iret E rfl rfl dd_Ref_fails_6
set_option maxHeartbeats 4000000 in
set_option maxRecDepth 20000 in
theorem zj_Ref_isName_14 {B : zx_B} (E : zx_E B zm_Ref_isName) (h : zx_H)   : zx_X B zm_Ref_isName (zx_QM B (fun r => ((some (Value.int (zx_b r)) : Option Value), h))) (zs_Ref_isName_J14 h  ) 0 0 14 [] [] h := by
  unfold zs_Ref_isName_J14
  refine zx_iconst E (0 : Int32) dd_Ref_isName_14 (by decide) ?_
  exact zx_zret E false rfl rfl rfl dd_Ref_isName_15
set_option maxHeartbeats 4000000 in
set_option maxRecDepth 20000 in
theorem zt_Ref_isName (l : Launch) (K : zx_K) (a0 : Int32) (h : zx_H) (r : Bool) (hf : zs_Ref_isName a0 h = some r) : zx_MR l zm_Ref_isName zy_Ref_isName K [.int a0] h (some (.int (zx_b r))) h := by
  refine zx_ofM (M := zm_Ref_isName) (y := zy_Ref_isName) (r := r) (as := [.int a0]) (ρ := (fun r => ((some (Value.int (zx_b r)) : Option Value), h))) (by decide) rfl hf (Nat.le_of_ble_eq_true rfl) ?_
  intro B hl hK E
  subst hK
  subst hl
  show zx_X B zm_Ref_isName _ _ 0 0 0 [(0, .int a0)] [] h
  unfold zs_Ref_isName
  refine zx_iload_n E 0 dd_Ref_isName_0 rfl rfl ?_
  refine zx_if_lt E 14 dd_Ref_isName_1 rfl ?_ ?_
  rotate_left
  · refine zx_sub [] rfl ?_
    exact zj_Ref_isName_14 E h
  refine zx_iload_n E 0 dd_Ref_isName_4 rfl rfl ?_
  refine zx_bipush E (64 : Int32) dd_Ref_isName_5 (by decide) ?_
  refine zx_icmp_ge E 14 dd_Ref_isName_7 rfl ?_ ?_
  rotate_left
  · refine zx_sub [] rfl ?_
    exact zj_Ref_isName_14 E h
  refine zx_iconst E (1 : Int32) dd_Ref_isName_10 (by decide) ?_
  refine zx_goto E 15 dd_Ref_isName_11 rfl ?_
  exact zx_zret E true rfl rfl rfl dd_Ref_isName_15
set_option maxHeartbeats 4000000 in
set_option maxRecDepth 20000 in
theorem zj_Ref_isType_16 {B : zx_B} (E : zx_E B zm_Ref_isType) (h : zx_H)   : zx_X B zm_Ref_isType (zx_QM B (fun r => ((some (Value.int (zx_b r)) : Option Value), h))) (zs_Ref_isType_J16 h  ) 0 0 16 [] [] h := by
  unfold zs_Ref_isType_J16
  refine zx_iconst E (0 : Int32) dd_Ref_isType_16 (by decide) ?_
  exact zx_zret E false rfl rfl rfl dd_Ref_isType_17
set_option maxHeartbeats 4000000 in
set_option maxRecDepth 20000 in
theorem zt_Ref_isType (l : Launch) (K : zx_K) (a1 : Int32) (h : zx_H) (r : Bool) (hf : zs_Ref_isType a1 h = some r) : zx_MR l zm_Ref_isType zy_Ref_isType K [zx_rV K 24 0, .int a1] h (some (.int (zx_b r))) h := by
  refine zx_ofM (M := zm_Ref_isType) (y := zy_Ref_isType) (r := r) (as := [zx_rV K 24 0, .int a1]) (ρ := (fun r => ((some (Value.int (zx_b r)) : Option Value), h))) (by decide) rfl hf (Nat.le_of_ble_eq_true rfl) ?_
  intro B hl hK E
  subst hK
  subst hl
  show zx_X B zm_Ref_isType _ _ 0 0 0 [(0, zx_rV (zx_BK B) 24 0), (1, .int a1)] [] h
  unfold zs_Ref_isType
  refine zx_iload_n E 1 dd_Ref_isType_0 rfl rfl ?_
  refine zx_if_lt E 16 dd_Ref_isType_1 rfl ?_ ?_
  rotate_left
  · refine zx_sub [] rfl ?_
    exact zj_Ref_isType_16 E h
  refine zx_iload_n E 1 dd_Ref_isType_4 rfl rfl ?_
  refine zx_aload_n E 0 dd_Ref_isType_5 rfl rfl ?_
  refine zx_getI E zd_Ref_types zg_24 Nat.zero_lt_one zw_1109 dd_Ref_isType_6 ?_
  refine zx_icmp_ge E 16 dd_Ref_isType_9 rfl ?_ ?_
  rotate_left
  · refine zx_sub [] rfl ?_
    exact zj_Ref_isType_16 E h
  refine zx_iconst E (1 : Int32) dd_Ref_isType_12 (by decide) ?_
  refine zx_goto E 17 dd_Ref_isType_13 rfl ?_
  exact zx_zret E true rfl rfl rfl dd_Ref_isType_17
set_option maxHeartbeats 4000000 in
set_option maxRecDepth 20000 in
theorem zj_Ref_isSort_34 {B : zx_B} (E : zx_E B zm_Ref_isSort) (h : zx_H)   : zx_X B zm_Ref_isSort (zx_QM B (fun r => ((some (Value.int (zx_b r)) : Option Value), h))) (zs_Ref_isSort_J34 h  ) 0 0 34 [] [] h := by
  unfold zs_Ref_isSort_J34
  refine zx_iconst E (0 : Int32) dd_Ref_isSort_34 (by decide) ?_
  exact zx_zret E false rfl rfl rfl dd_Ref_isSort_35
set_option maxHeartbeats 4000000 in
set_option maxRecDepth 20000 in
theorem zj_Ref_isSort_25 {B : zx_B} (E : zx_E B zm_Ref_isSort) (h : zx_H)  (x2 : Int32) (s1 : Int32) : zx_X B zm_Ref_isSort (zx_QM B (fun r => ((some (Value.int (zx_b r)) : Option Value), h))) (zs_Ref_isSort_J25 h  x2 s1) 0 0 25 [(2, .int x2)] [.int s1, zx_rV (zx_BK B) 25 0] h := by
  unfold zs_Ref_isSort_J25
  refine zx_iald E zg_25 Nat.zero_lt_one dd_Ref_isSort_25 ?_
  refine zx_iload_n E 0 dd_Ref_isSort_26 rfl rfl ?_
  refine zx_icmp_ne E 34 dd_Ref_isSort_27 rfl ?_ ?_
  rotate_left
  · refine zx_sub [] rfl ?_
    exact zj_Ref_isSort_34 E h
  refine zx_iconst E (1 : Int32) dd_Ref_isSort_30 (by decide) ?_
  refine zx_goto E 35 dd_Ref_isSort_31 rfl ?_
  exact zx_zret E true rfl rfl rfl dd_Ref_isSort_35
set_option maxHeartbeats 4000000 in
set_option maxRecDepth 20000 in
theorem zt_Ref_isSort (l : Launch) (K : zx_K) (a1 : Int32) (a2 : Int32) (h : zx_H) (r : Bool) (hf : zs_Ref_isSort a1 a2 h = some r) : zx_MR l zm_Ref_isSort zy_Ref_isSort K [zx_rV K 24 0, .int a1, .int a2] h (some (.int (zx_b r))) h := by
  refine zx_ofM (M := zm_Ref_isSort) (y := zy_Ref_isSort) (r := r) (as := [zx_rV K 24 0, .int a1, .int a2]) (ρ := (fun r => ((some (Value.int (zx_b r)) : Option Value), h))) (by decide) rfl hf (Nat.le_of_ble_eq_true rfl) ?_
  intro B hl hK E
  subst hK
  subst hl
  show zx_X B zm_Ref_isSort _ _ 0 0 0 [(0, zx_rV (zx_BK B) 24 0), (1, .int a1), (2, .int a2)] [] h
  unfold zs_Ref_isSort
  refine zx_aload_n E 0 dd_Ref_isSort_0 rfl rfl ?_
  refine zx_iload_n E 1 dd_Ref_isSort_1 rfl rfl ?_
  refine zx_callV_z (T := zx_TRef) E [.int a1] (fun rZ eZ => zt_Ref_isType _ _ a1 h _ eZ) zg_24 Nat.zero_lt_one rfl zc_Ref_105 ⟨by decide, by decide⟩ (Nat.zero_le _) (Nat.zero_le _) rfl rfl (Nat.le_of_ble_eq_true rfl) dd_Ref_isSort_2 (fun r1 => ?_)
  refine zx_ifb_eq E (x := r1) 34 dd_Ref_isSort_5 rfl ?_ ?_
  rotate_left
  · refine zx_sub [] rfl ?_
    exact zj_Ref_isSort_34 E h
  refine zx_aload_n E 0 dd_Ref_isSort_8 rfl rfl ?_
  refine zx_getR E 25 0 zd_Ref_sort zg_24 Nat.zero_lt_one (zr_Ref_sort _) zw_1110 dd_Ref_isSort_9 ?_
  refine zx_aload_n E 0 dd_Ref_isSort_12 rfl rfl ?_
  refine zx_iload_n E 1 dd_Ref_isSort_13 rfl rfl ?_
  refine zx_callV_z (T := zx_TRef) E [.int a1] (fun rZ eZ => zt_Ref_isType _ _ a1 h _ eZ) zg_24 Nat.zero_lt_one rfl zc_Ref_105 ⟨by decide, by decide⟩ (Nat.zero_le _) (Nat.zero_le _) rfl rfl (Nat.le_of_ble_eq_true rfl) dd_Ref_isSort_14 (fun r2 => ?_)
  refine zx_ifb_eq E (x := r2) 24 dd_Ref_isSort_17 rfl ?_ ?_
  rotate_left
  · refine zx_iconst E (0 : Int32) dd_Ref_isSort_24 (by decide) ?_
    refine zx_sub [2] rfl ?_
    exact zj_Ref_isSort_25 E h a2 (0 : Int32)
  refine zx_iload_n E 1 dd_Ref_isSort_20 rfl rfl ?_
  refine zx_goto E 25 dd_Ref_isSort_21 rfl ?_
  refine zx_sub [2] rfl ?_
  exact zj_Ref_isSort_25 E h a2 a1
set_option maxHeartbeats 4000000 in
set_option maxRecDepth 20000 in
theorem zt_Ref_newType (l : Launch) (K : zx_K) (a1 : Int32) (h : zx_H) (r : (Int32 × zx_H)) (hf : zs_Ref_newType a1 h = some r) : zx_MR l zm_Ref_newType zy_Ref_newType K [zx_rV K 24 0, .int a1] h (some (.int r.1)) r.2 := by
  refine zx_ofM (M := zm_Ref_newType) (y := zy_Ref_newType) (r := r) (as := [zx_rV K 24 0, .int a1]) (ρ := (fun r => ((some (Value.int r.1) : Option Value), r.2))) (by decide) rfl hf (Nat.le_of_ble_eq_true rfl) ?_
  intro B hl hK E
  subst hK
  subst hl
  show zx_X B zm_Ref_newType _ _ 0 0 0 [(0, zx_rV (zx_BK B) 24 0), (1, .int a1)] [] h
  unfold zs_Ref_newType
  refine zx_aload_n E 0 dd_Ref_newType_0 rfl rfl ?_
  refine zx_getR E 25 0 zd_Ref_sort zg_24 Nat.zero_lt_one (zr_Ref_sort _) zw_1110 dd_Ref_newType_1 ?_
  refine zx_aload_n E 0 dd_Ref_newType_4 rfl rfl ?_
  refine zx_getI E zd_Ref_types zg_24 Nat.zero_lt_one zw_1109 dd_Ref_newType_5 ?_
  refine zx_iload_n E 1 dd_Ref_newType_8 rfl rfl ?_
  refine zx_iast E zg_25 Nat.zero_lt_one dd_Ref_newType_9 ?_
  refine zx_letH (fun h1 => ?_)
  refine zx_aload_n E 0 dd_Ref_newType_10 rfl rfl ?_
  refine zx_getR E 26 0 zd_Ref_size zg_24 Nat.zero_lt_one (zr_Ref_size _) zw_1111 dd_Ref_newType_11 ?_
  refine zx_aload_n E 0 dd_Ref_newType_14 rfl rfl ?_
  refine zx_getI E zd_Ref_types zg_24 Nat.zero_lt_one zw_1109 dd_Ref_newType_15 ?_
  refine zx_iconst E (0 : Int32) dd_Ref_newType_18 (by decide) ?_
  refine zx_iast E zg_26 Nat.zero_lt_one dd_Ref_newType_19 ?_
  refine zx_letH (fun h2 => ?_)
  refine zx_aload_n E 0 dd_Ref_newType_20 rfl rfl ?_
  refine zx_dup E dd_Ref_newType_21 rfl ?_
  refine zx_getI E zd_Ref_types zg_24 Nat.zero_lt_one zw_1109 dd_Ref_newType_22 ?_
  refine zx_iconst E (1 : Int32) dd_Ref_newType_25 (by decide) ?_
  refine zx_iadd E dd_Ref_newType_26 ?_
  refine zx_putI E zd_Ref_types zp_Ref_types zg_24 Nat.zero_lt_one rfl rfl zw_1109 dd_Ref_newType_27 ?_
  refine zx_letH (fun h3 => ?_)
  refine zx_aload_n E 0 dd_Ref_newType_30 rfl rfl ?_
  refine zx_getI E zd_Ref_types zg_24 Nat.zero_lt_one zw_1109 dd_Ref_newType_31 ?_
  refine zx_iconst E (1 : Int32) dd_Ref_newType_34 (by decide) ?_
  refine zx_isub E dd_Ref_newType_35 ?_
  exact zx_iret E rfl rfl dd_Ref_newType_36
set_option maxHeartbeats 4000000 in
set_option maxRecDepth 20000 in
theorem zj_Ref_enumeration_11 {B : zx_B} (E : zx_E B zm_Ref_enumeration)   (h : zx_H) : zx_X B zm_Ref_enumeration (zx_QM B (fun r => ((some (Value.int r.1) : Option Value), r.2))) (zs_Ref_enumeration_J11  h) 0 0 11 [(0, zx_rV (zx_BK B) 24 0)] [] h := by
  unfold zs_Ref_enumeration_J11
  refine zx_aload_n E 0 dd_Ref_enumeration_11 rfl rfl ?_
  refine zx_iconst E (1 : Int32) dd_Ref_enumeration_12 (by decide) ?_
  refine zx_callV_iw (T := zx_TRef) E [.int (1 : Int32)] (fun rZ eZ => zt_Ref_fails _ _ (1 : Int32) h _ eZ) zg_24 Nat.zero_lt_one rfl zc_Ref_109 ⟨by decide, by decide⟩ (Nat.zero_le _) (Nat.zero_le _) rfl rfl (Nat.le_of_ble_eq_true rfl) dd_Ref_enumeration_13 (fun r1 => ?_)
  exact zx_iret E rfl rfl dd_Ref_enumeration_16
set_option maxHeartbeats 4000000 in
set_option maxRecDepth 20000 in
theorem zj_Ref_enumeration_85 {B : zx_B} (E : zx_E B zm_Ref_enumeration) (k20 : (Int64 → Int32 → Int32 → zx_H → Option (Int32 × zx_H))) (hk20 : ∀ (x1 : Int64) (x3 : Int32) (x4 : Int32) (h : zx_H), zx_X B zm_Ref_enumeration (zx_QM B (fun r => ((some (Value.int r.1) : Option Value), r.2))) (k20 x1 x3 x4 h) 0 0 20 [(0, zx_rV (zx_BK B) 24 0), (1, .long x1), (3, .int x3), (4, .int x4)] [] h) (k50 : (Int64 → Int32 → Int32 → Int32 → Bool → Int32 → zx_H → Option (Int32 × zx_H))) (hk50 : ∀ (x1 : Int64) (x3 : Int32) (x4 : Int32) (x5 : Int32) (x6 : Bool) (x7 : Int32) (h : zx_H), zx_X B zm_Ref_enumeration (zx_QM B (fun r => ((some (Value.int r.1) : Option Value), r.2))) (k50 x1 x3 x4 x5 x6 x7 h) 0 0 50 [(0, zx_rV (zx_BK B) 24 0), (1, .long x1), (3, .int x3), (4, .int x4), (5, .int x5), (6, .int (zx_b x6)), (7, .int x7)] [] h) (x1 : Int64) (x3 : Int32) (x4 : Int32) (x5 : Int32) (x7 : Int32) (s0 : Bool) (h : zx_H) : zx_X B zm_Ref_enumeration (zx_QM B (fun r => ((some (Value.int r.1) : Option Value), r.2))) (zs_Ref_enumeration_J85 k20 k50 x1 x3 x4 x5 x7 s0 h) 0 0 85 [(0, zx_rV (zx_BK B) 24 0), (1, .long x1), (3, .int x3), (4, .int x4), (5, .int x5), (7, .int x7)] [.int (zx_b s0)] h := by
  unfold zs_Ref_enumeration_J85
  refine zx_istore E (lv1 := [(6, .int (zx_b s0)), (0, zx_rV (zx_BK B) 24 0), (1, .long x1), (3, .int x3), (4, .int x4), (5, .int x5), (7, .int x7)]) dd_Ref_enumeration_85 (by decide) rfl ?_
  refine zx_iinc E 6 (x7 + (1 : Int32)) (lv1 := [(7, .int (x7 + (1 : Int32))), (6, .int (zx_b s0)), (0, zx_rV (zx_BK B) 24 0), (1, .long x1), (3, .int x3), (4, .int x4), (5, .int x5)]) dd_Ref_enumeration_87 rfl rfl (by decide) rfl ?_
  refine zx_goto E 50 dd_Ref_enumeration_90 rfl ?_
  refine zx_sub [2, 3, 4, 5, 6, 1, 0] rfl ?_
  exact hk50 x1 x3 x4 x5 s0 (x7 + (1 : Int32)) h
set_option maxHeartbeats 4000000 in
set_option maxRecDepth 20000 in
theorem zj_Ref_enumeration_84 {B : zx_B} (E : zx_E B zm_Ref_enumeration) (k20 : (Int64 → Int32 → Int32 → zx_H → Option (Int32 × zx_H))) (hk20 : ∀ (x1 : Int64) (x3 : Int32) (x4 : Int32) (h : zx_H), zx_X B zm_Ref_enumeration (zx_QM B (fun r => ((some (Value.int r.1) : Option Value), r.2))) (k20 x1 x3 x4 h) 0 0 20 [(0, zx_rV (zx_BK B) 24 0), (1, .long x1), (3, .int x3), (4, .int x4)] [] h) (k50 : (Int64 → Int32 → Int32 → Int32 → Bool → Int32 → zx_H → Option (Int32 × zx_H))) (hk50 : ∀ (x1 : Int64) (x3 : Int32) (x4 : Int32) (x5 : Int32) (x6 : Bool) (x7 : Int32) (h : zx_H), zx_X B zm_Ref_enumeration (zx_QM B (fun r => ((some (Value.int r.1) : Option Value), r.2))) (k50 x1 x3 x4 x5 x6 x7 h) 0 0 50 [(0, zx_rV (zx_BK B) 24 0), (1, .long x1), (3, .int x3), (4, .int x4), (5, .int x5), (6, .int (zx_b x6)), (7, .int x7)] [] h) (x1 : Int64) (x3 : Int32) (x4 : Int32) (x5 : Int32) (x7 : Int32) (h : zx_H) : zx_X B zm_Ref_enumeration (zx_QM B (fun r => ((some (Value.int r.1) : Option Value), r.2))) (zs_Ref_enumeration_J84 k20 k50 x1 x3 x4 x5 x7 h) 0 0 84 [(0, zx_rV (zx_BK B) 24 0), (1, .long x1), (3, .int x3), (4, .int x4), (5, .int x5), (7, .int x7)] [] h := by
  unfold zs_Ref_enumeration_J84
  refine zx_iconst E (0 : Int32) dd_Ref_enumeration_84 (by decide) ?_
  exact zj_Ref_enumeration_85 E k20 hk20 k50 hk50 x1 x3 x4 x5 x7 false h
set_option maxHeartbeats 4000000 in
set_option maxRecDepth 20000 in
theorem zb_Ref_enumeration_50 {B : zx_B} (E : zx_E B zm_Ref_enumeration) (k20 : (Int64 → Int32 → Int32 → zx_H → Option (Int32 × zx_H))) (hk20 : ∀ (x1 : Int64) (x3 : Int32) (x4 : Int32) (h : zx_H), zx_X B zm_Ref_enumeration (zx_QM B (fun r => ((some (Value.int r.1) : Option Value), r.2))) (k20 x1 x3 x4 h) 0 0 20 [(0, zx_rV (zx_BK B) 24 0), (1, .long x1), (3, .int x3), (4, .int x4)] [] h) (k50 : (Int64 → Int32 → Int32 → Int32 → Bool → Int32 → zx_H → Option (Int32 × zx_H))) (hk50 : ∀ (x1 : Int64) (x3 : Int32) (x4 : Int32) (x5 : Int32) (x6 : Bool) (x7 : Int32) (h : zx_H), zx_X B zm_Ref_enumeration (zx_QM B (fun r => ((some (Value.int r.1) : Option Value), r.2))) (k50 x1 x3 x4 x5 x6 x7 h) 0 0 50 [(0, zx_rV (zx_BK B) 24 0), (1, .long x1), (3, .int x3), (4, .int x4), (5, .int x5), (6, .int (zx_b x6)), (7, .int x7)] [] h) (x1 : Int64) (x3 : Int32) (x4 : Int32) (x5 : Int32) (x6 : Bool) (x7 : Int32) (h : zx_H) : zx_X B zm_Ref_enumeration (zx_QM B (fun r => ((some (Value.int r.1) : Option Value), r.2))) (zs_Ref_enumeration_L50_body k20 k50 x1 x3 x4 x5 x6 x7 h) 0 0 50 [(0, zx_rV (zx_BK B) 24 0), (1, .long x1), (3, .int x3), (4, .int x4), (5, .int x5), (6, .int (zx_b x6)), (7, .int x7)] [] h := by
  unfold zs_Ref_enumeration_L50_body
  refine zx_iload E 6 dd_Ref_enumeration_50 rfl ?_
  refine zx_iload E 3 dd_Ref_enumeration_52 rfl ?_
  refine zx_icmp_ge E 93 dd_Ref_enumeration_54 rfl ?_ ?_
  rotate_left
  · refine zx_iload E 5 dd_Ref_enumeration_93 rfl ?_
    refine zx_ifb_ne E (x := x6) 104 dd_Ref_enumeration_95 rfl ?_ ?_
    · refine zx_aload_n E 0 dd_Ref_enumeration_98 rfl rfl ?_
      refine zx_iconst E (1 : Int32) dd_Ref_enumeration_99 (by decide) ?_
      refine zx_callV_iw (T := zx_TRef) E [.int (1 : Int32)] (fun rZ eZ => zt_Ref_fails _ _ (1 : Int32) h _ eZ) zg_24 Nat.zero_lt_one rfl zc_Ref_109 ⟨by decide, by decide⟩ (Nat.zero_le _) (Nat.zero_le _) rfl rfl (Nat.le_of_ble_eq_true rfl) dd_Ref_enumeration_100 (fun r1 => ?_)
      exact zx_iret E rfl rfl dd_Ref_enumeration_103
    refine zx_iinc E 3 (x4 + (1 : Int32)) (lv1 := [(4, .int (x4 + (1 : Int32))), (0, zx_rV (zx_BK B) 24 0), (1, .long x1), (3, .int x3), (5, .int x5), (6, .int (zx_b x6)), (7, .int x7)]) dd_Ref_enumeration_104 rfl rfl (by decide) rfl ?_
    refine zx_goto E 20 dd_Ref_enumeration_107 rfl ?_
    refine zx_sub [1, 2, 3, 0] rfl ?_
    exact hk20 x1 x3 (x4 + (1 : Int32)) h
  refine zx_iload E 5 dd_Ref_enumeration_57 rfl ?_
  refine zx_ifb_eq E (x := x6) 84 dd_Ref_enumeration_59 rfl ?_ ?_
  rotate_left
  · refine zx_sub [0, 1, 2, 3, 4, 6] rfl ?_
    exact zj_Ref_enumeration_84 E k20 hk20 k50 hk50 x1 x3 x4 x5 x7 h
  refine zx_lload_n E 1 dd_Ref_enumeration_62 rfl rfl ?_
  refine zx_bipush E (8 : Int32) dd_Ref_enumeration_63 (by decide) ?_
  refine zx_iload E 6 dd_Ref_enumeration_65 rfl ?_
  refine zx_imul E dd_Ref_enumeration_67 ?_
  refine zx_lshr E dd_Ref_enumeration_68 ?_
  refine zx_ldc2 E (255 : Int64) zw_1240 dd_Ref_enumeration_69 ?_
  refine zx_land E dd_Ref_enumeration_72 ?_
  refine zx_iload E 4 dd_Ref_enumeration_73 rfl ?_
  refine zx_i2l E dd_Ref_enumeration_75 ?_
  refine zx_lcmp_eq E 84 dd_Ref_enumeration_76 dd_Ref_enumeration_77 rfl ?_ ?_
  rotate_left
  · refine zx_sub [0, 1, 2, 3, 4, 6] rfl ?_
    exact zj_Ref_enumeration_84 E k20 hk20 k50 hk50 x1 x3 x4 x5 x7 h
  refine zx_iconst E (1 : Int32) dd_Ref_enumeration_80 (by decide) ?_
  refine zx_goto E 85 dd_Ref_enumeration_81 rfl ?_
  refine zx_sub [0, 1, 2, 3, 4, 6] rfl ?_
  exact zj_Ref_enumeration_85 E k20 hk20 k50 hk50 x1 x3 x4 x5 x7 true h
theorem zj_Ref_enumeration_50 {B : zx_B} (E : zx_E B zm_Ref_enumeration) (k20 : (Int64 → Int32 → Int32 → zx_H → Option (Int32 × zx_H))) (hk20 : ∀ (x1 : Int64) (x3 : Int32) (x4 : Int32) (h : zx_H), zx_X B zm_Ref_enumeration (zx_QM B (fun r => ((some (Value.int r.1) : Option Value), r.2))) (k20 x1 x3 x4 h) 0 0 20 [(0, zx_rV (zx_BK B) 24 0), (1, .long x1), (3, .int x3), (4, .int x4)] [] h) : ∀ (x1 : Int64) (x3 : Int32) (x4 : Int32) (x5 : Int32) (x6 : Bool) (x7 : Int32) (h : zx_H), zx_X B zm_Ref_enumeration (zx_QM B (fun r => ((some (Value.int r.1) : Option Value), r.2))) (zs_Ref_enumeration_L50 k20 x1 x3 x4 x5 x6 x7 h) 0 0 50 [(0, zx_rV (zx_BK B) 24 0), (1, .long x1), (3, .int x3), (4, .int x4), (5, .int x5), (6, .int (zx_b x6)), (7, .int x7)] [] h := by
  unfold zs_Ref_enumeration_L50
  generalize zx_fuel = n
  induction n with
  | zero => intros; exact zx_non
  | succ n ih => intro x1 x3 x4 x5 x6 x7 h; exact zb_Ref_enumeration_50 E k20 hk20 _ ih x1 x3 x4 x5 x6 x7 h
set_option maxHeartbeats 4000000 in
set_option maxRecDepth 20000 in
theorem zj_Ref_enumeration_126 {B : zx_B} (E : zx_E B zm_Ref_enumeration)   (h : zx_H) : zx_X B zm_Ref_enumeration (zx_QM B (fun r => ((some (Value.int r.1) : Option Value), r.2))) (zs_Ref_enumeration_J126  h) 0 0 126 [(0, zx_rV (zx_BK B) 24 0)] [] h := by
  unfold zs_Ref_enumeration_J126
  refine zx_aload_n E 0 dd_Ref_enumeration_126 rfl rfl ?_
  refine zx_iconst E (2 : Int32) dd_Ref_enumeration_127 (by decide) ?_
  refine zx_callV_iw (T := zx_TRef) E [.int (2 : Int32)] (fun rZ eZ => zt_Ref_fails _ _ (2 : Int32) h _ eZ) zg_24 Nat.zero_lt_one rfl zc_Ref_109 ⟨by decide, by decide⟩ (Nat.zero_le _) (Nat.zero_le _) rfl rfl (Nat.le_of_ble_eq_true rfl) dd_Ref_enumeration_128 (fun r1 => ?_)
  exact zx_iret E rfl rfl dd_Ref_enumeration_131
set_option maxHeartbeats 4000000 in
set_option maxRecDepth 20000 in
theorem zb_Ref_enumeration_155 {B : zx_B} (E : zx_E B zm_Ref_enumeration)  (k155 : (Int64 → Int32 → Int32 → Int32 → zx_H → Option (Int32 × zx_H))) (hk155 : ∀ (x1 : Int64) (x3 : Int32) (x4 : Int32) (x5 : Int32) (h : zx_H), zx_X B zm_Ref_enumeration (zx_QM B (fun r => ((some (Value.int r.1) : Option Value), r.2))) (k155 x1 x3 x4 x5 h) 0 0 155 [(0, zx_rV (zx_BK B) 24 0), (1, .long x1), (3, .int x3), (4, .int x4), (5, .int x5)] [] h) (x1 : Int64) (x3 : Int32) (x4 : Int32) (x5 : Int32) (h : zx_H) : zx_X B zm_Ref_enumeration (zx_QM B (fun r => ((some (Value.int r.1) : Option Value), r.2))) (zs_Ref_enumeration_L155_body  k155 x1 x3 x4 x5 h) 0 0 155 [(0, zx_rV (zx_BK B) 24 0), (1, .long x1), (3, .int x3), (4, .int x4), (5, .int x5)] [] h := by
  unfold zs_Ref_enumeration_L155_body
  refine zx_iload E 4 dd_Ref_enumeration_155 rfl ?_
  refine zx_iload_n E 2 dd_Ref_enumeration_157 rfl rfl ?_
  refine zx_icmp_ge E 192 dd_Ref_enumeration_158 rfl ?_ ?_
  rotate_left
  · refine zx_iload E 3 dd_Ref_enumeration_192 rfl ?_
    exact zx_iret E rfl rfl dd_Ref_enumeration_194
  refine zx_aload_n E 0 dd_Ref_enumeration_161 rfl rfl ?_
  refine zx_getR E 27 0 zd_Ref_names zg_24 Nat.zero_lt_one (zr_Ref_names _) zw_1112 dd_Ref_enumeration_162 ?_
  refine zx_bipush E (8 : Int32) dd_Ref_enumeration_165 (by decide) ?_
  refine zx_iload E 3 dd_Ref_enumeration_167 rfl ?_
  refine zx_imul E dd_Ref_enumeration_169 ?_
  refine zx_iload E 4 dd_Ref_enumeration_170 rfl ?_
  refine zx_iadd E dd_Ref_enumeration_172 ?_
  refine zx_lload_n E 1 dd_Ref_enumeration_173 rfl rfl ?_
  refine zx_bipush E (8 : Int32) dd_Ref_enumeration_174 (by decide) ?_
  refine zx_iload E 4 dd_Ref_enumeration_176 rfl ?_
  refine zx_imul E dd_Ref_enumeration_178 ?_
  refine zx_lshr E dd_Ref_enumeration_179 ?_
  refine zx_ldc2 E (255 : Int64) zw_1240 dd_Ref_enumeration_180 ?_
  refine zx_land E dd_Ref_enumeration_183 ?_
  refine zx_l2i E dd_Ref_enumeration_184 ?_
  refine zx_iast E zg_27 Nat.zero_lt_one dd_Ref_enumeration_185 ?_
  refine zx_letH (fun h1 => ?_)
  refine zx_iinc E 4 (x5 + (1 : Int32)) (lv1 := [(5, .int (x5 + (1 : Int32))), (0, zx_rV (zx_BK B) 24 0), (1, .long x1), (3, .int x3), (4, .int x4)]) dd_Ref_enumeration_186 rfl rfl (by decide) rfl ?_
  refine zx_goto E 155 dd_Ref_enumeration_189 rfl ?_
  refine zx_sub [1, 2, 3, 4, 0] rfl ?_
  exact hk155 x1 x3 x4 (x5 + (1 : Int32)) h1
theorem zj_Ref_enumeration_155 {B : zx_B} (E : zx_E B zm_Ref_enumeration)  : ∀ (x1 : Int64) (x3 : Int32) (x4 : Int32) (x5 : Int32) (h : zx_H), zx_X B zm_Ref_enumeration (zx_QM B (fun r => ((some (Value.int r.1) : Option Value), r.2))) (zs_Ref_enumeration_L155  x1 x3 x4 x5 h) 0 0 155 [(0, zx_rV (zx_BK B) 24 0), (1, .long x1), (3, .int x3), (4, .int x4), (5, .int x5)] [] h := by
  unfold zs_Ref_enumeration_L155
  generalize zx_fuel = n
  induction n with
  | zero => intros; exact zx_non
  | succ n ih => intro x1 x3 x4 x5 h; exact zb_Ref_enumeration_155 E  _ ih x1 x3 x4 x5 h
set_option maxHeartbeats 4000000 in
set_option maxRecDepth 20000 in
theorem zb_Ref_enumeration_20 {B : zx_B} (E : zx_E B zm_Ref_enumeration)  (k20 : (Int64 → Int32 → Int32 → zx_H → Option (Int32 × zx_H))) (hk20 : ∀ (x1 : Int64) (x3 : Int32) (x4 : Int32) (h : zx_H), zx_X B zm_Ref_enumeration (zx_QM B (fun r => ((some (Value.int r.1) : Option Value), r.2))) (k20 x1 x3 x4 h) 0 0 20 [(0, zx_rV (zx_BK B) 24 0), (1, .long x1), (3, .int x3), (4, .int x4)] [] h) (x1 : Int64) (x3 : Int32) (x4 : Int32) (h : zx_H) : zx_X B zm_Ref_enumeration (zx_QM B (fun r => ((some (Value.int r.1) : Option Value), r.2))) (zs_Ref_enumeration_L20_body  k20 x1 x3 x4 h) 0 0 20 [(0, zx_rV (zx_BK B) 24 0), (1, .long x1), (3, .int x3), (4, .int x4)] [] h := by
  unfold zs_Ref_enumeration_L20_body
  refine zx_iload E 3 dd_Ref_enumeration_20 rfl ?_
  refine zx_iload_n E 2 dd_Ref_enumeration_22 rfl rfl ?_
  refine zx_icmp_ge E 110 dd_Ref_enumeration_23 rfl ?_ ?_
  · refine zx_lload_n E 1 dd_Ref_enumeration_26 rfl rfl ?_
    refine zx_bipush E (8 : Int32) dd_Ref_enumeration_27 (by decide) ?_
    refine zx_iload E 3 dd_Ref_enumeration_29 rfl ?_
    refine zx_imul E dd_Ref_enumeration_31 ?_
    refine zx_lshr E dd_Ref_enumeration_32 ?_
    refine zx_ldc2 E (255 : Int64) zw_1240 dd_Ref_enumeration_33 ?_
    refine zx_land E dd_Ref_enumeration_36 ?_
    refine zx_l2i E dd_Ref_enumeration_37 ?_
    refine zx_leti (fun y1 => ?_)
    refine zx_istore E (lv1 := [(5, .int y1), (0, zx_rV (zx_BK B) 24 0), (1, .long x1), (3, .int x3), (4, .int x4)]) dd_Ref_enumeration_38 (by decide) rfl ?_
    refine zx_iload E 0 dd_Ref_enumeration_40 rfl ?_
    refine zx_callS_z E [.int y1] (fun rZ eZ => zt_Ref_isName _ _ y1 h _ eZ) zc_Ref_115 ⟨by decide, by decide⟩ (Nat.zero_le _) (Nat.zero_le _) rfl rfl (Nat.le_of_ble_eq_true rfl) dd_Ref_enumeration_42 (fun r2 => ?_)
    refine zx_istore E (lv1 := [(6, .int (zx_b r2)), (5, .int y1), (0, zx_rV (zx_BK B) 24 0), (1, .long x1), (3, .int x3), (4, .int x4)]) dd_Ref_enumeration_45 (by decide) rfl ?_
    refine zx_iconst E (0 : Int32) dd_Ref_enumeration_47 (by decide) ?_
    refine zx_istore E (lv1 := [(7, .int (0 : Int32)), (6, .int (zx_b r2)), (5, .int y1), (0, zx_rV (zx_BK B) 24 0), (1, .long x1), (3, .int x3), (4, .int x4)]) dd_Ref_enumeration_48 (by decide) rfl ?_
    refine zx_sub [3, 4, 5, 6, 2, 1, 0] rfl ?_
    exact zj_Ref_enumeration_50 E k20 hk20 x1 x3 x4 y1 r2 (0 : Int32) h
  refine zx_aload_n E 0 dd_Ref_enumeration_110 rfl rfl ?_
  refine zx_getI E zd_Ref_built zg_24 Nat.zero_lt_one zw_1108 dd_Ref_enumeration_111 ?_
  refine zx_if_ne E 126 dd_Ref_enumeration_114 rfl ?_ ?_
  rotate_left
  · refine zx_sub [0] rfl ?_
    exact zj_Ref_enumeration_126 E h
  refine zx_aload_n E 0 dd_Ref_enumeration_117 rfl rfl ?_
  refine zx_getI E zd_Ref_types zg_24 Nat.zero_lt_one zw_1109 dd_Ref_enumeration_118 ?_
  refine zx_bipush E (40 : Int32) dd_Ref_enumeration_121 (by decide) ?_
  refine zx_icmp_ne E 132 dd_Ref_enumeration_123 rfl ?_ ?_
  · refine zx_sub [0] rfl ?_
    exact zj_Ref_enumeration_126 E h
  refine zx_aload_n E 0 dd_Ref_enumeration_132 rfl rfl ?_
  refine zx_iconst E (0 : Int32) dd_Ref_enumeration_133 (by decide) ?_
  refine zx_putI E zd_Ref_thrown zp_Ref_thrown zg_24 Nat.zero_lt_one rfl rfl zw_1107 dd_Ref_enumeration_134 ?_
  refine zx_letH (fun h3 => ?_)
  refine zx_aload_n E 0 dd_Ref_enumeration_137 rfl rfl ?_
  refine zx_iconst E (3 : Int32) dd_Ref_enumeration_138 (by decide) ?_
  refine zx_callV_iw (T := zx_TRef) E [.int (3 : Int32)] (fun rZ eZ => zt_Ref_newType _ _ (3 : Int32) h3 _ eZ) zg_24 Nat.zero_lt_one rfl zc_Ref_122 ⟨by decide, by decide⟩ (Nat.zero_le _) (Nat.zero_le _) rfl rfl (Nat.le_of_ble_eq_true rfl) dd_Ref_enumeration_139 (fun r4 => ?_)
  refine zx_istore E (lv1 := [(4, .int r4.1), (0, zx_rV (zx_BK B) 24 0), (1, .long x1), (3, .int x3)]) dd_Ref_enumeration_142 (by decide) rfl ?_
  refine zx_aload_n E 1 dd_Ref_enumeration_144 rfl rfl ?_
  refine zx_getR E 26 0 zd_Ref_size zg_24 Nat.zero_lt_one (zr_Ref_size _) zw_1111 dd_Ref_enumeration_145 ?_
  refine zx_iload E 0 dd_Ref_enumeration_148 rfl ?_
  refine zx_iload_n E 3 dd_Ref_enumeration_150 rfl rfl ?_
  refine zx_iast E zg_26 Nat.zero_lt_one dd_Ref_enumeration_151 ?_
  refine zx_letH (fun h5 => ?_)
  refine zx_iconst E (0 : Int32) dd_Ref_enumeration_152 (by decide) ?_
  refine zx_istore E (lv1 := [(5, .int (0 : Int32)), (4, .int r4.1), (0, zx_rV (zx_BK B) 24 0), (1, .long x1), (3, .int x3)]) dd_Ref_enumeration_153 (by decide) rfl ?_
  refine zx_sub [2, 3, 4, 1, 0] rfl ?_
  exact zj_Ref_enumeration_155 E x1 x3 r4.1 (0 : Int32) h5
theorem zj_Ref_enumeration_20 {B : zx_B} (E : zx_E B zm_Ref_enumeration)  : ∀ (x1 : Int64) (x3 : Int32) (x4 : Int32) (h : zx_H), zx_X B zm_Ref_enumeration (zx_QM B (fun r => ((some (Value.int r.1) : Option Value), r.2))) (zs_Ref_enumeration_L20  x1 x3 x4 h) 0 0 20 [(0, zx_rV (zx_BK B) 24 0), (1, .long x1), (3, .int x3), (4, .int x4)] [] h := by
  unfold zs_Ref_enumeration_L20
  generalize zx_fuel = n
  induction n with
  | zero => intros; exact zx_non
  | succ n ih => intro x1 x3 x4 h; exact zb_Ref_enumeration_20 E  _ ih x1 x3 x4 h
set_option maxHeartbeats 4000000 in
set_option maxRecDepth 20000 in
theorem zt_Ref_enumeration (l : Launch) (K : zx_K) (a1 : Int64) (a3 : Int32) (h : zx_H) (r : (Int32 × zx_H)) (hf : zs_Ref_enumeration a1 a3 h = some r) : zx_MR l zm_Ref_enumeration zy_Ref_enumeration K [zx_rV K 24 0, .long a1, .int a3] h (some (.int r.1)) r.2 := by
  refine zx_ofM (M := zm_Ref_enumeration) (y := zy_Ref_enumeration) (r := r) (as := [zx_rV K 24 0, .long a1, .int a3]) (ρ := (fun r => ((some (Value.int r.1) : Option Value), r.2))) (by decide) rfl hf (Nat.le_of_ble_eq_true rfl) ?_
  intro B hl hK E
  subst hK
  subst hl
  show zx_X B zm_Ref_enumeration _ _ 0 0 0 [(0, zx_rV (zx_BK B) 24 0), (1, .long a1), (3, .int a3)] [] h
  unfold zs_Ref_enumeration
  refine zx_iload_n E 2 dd_Ref_enumeration_0 rfl rfl ?_
  refine zx_iconst E (1 : Int32) dd_Ref_enumeration_1 (by decide) ?_
  refine zx_icmp_lt E 11 dd_Ref_enumeration_2 rfl ?_ ?_
  rotate_left
  · refine zx_sub [0] rfl ?_
    exact zj_Ref_enumeration_11 E h
  refine zx_iload_n E 2 dd_Ref_enumeration_5 rfl rfl ?_
  refine zx_bipush E (8 : Int32) dd_Ref_enumeration_6 (by decide) ?_
  refine zx_icmp_le E 17 dd_Ref_enumeration_8 rfl ?_ ?_
  · refine zx_sub [0] rfl ?_
    exact zj_Ref_enumeration_11 E h
  refine zx_iconst E (0 : Int32) dd_Ref_enumeration_17 (by decide) ?_
  refine zx_istore E (lv1 := [(4, .int (0 : Int32)), (0, zx_rV (zx_BK B) 24 0), (1, .long a1), (3, .int a3)]) dd_Ref_enumeration_18 (by decide) rfl ?_
  refine zx_sub [1, 2, 3, 0] rfl ?_
  exact zj_Ref_enumeration_20 E a1 a3 (0 : Int32) h
set_option maxHeartbeats 4000000 in
set_option maxRecDepth 20000 in
theorem zj_Ref_bean_16 {B : zx_B} (E : zx_E B zm_Ref_bean)   (h : zx_H) : zx_X B zm_Ref_bean (zx_QM B (fun r => ((some (Value.int r.1) : Option Value), r.2))) (zs_Ref_bean_J16  h) 0 0 16 [(0, zx_rV (zx_BK B) 24 0)] [] h := by
  unfold zs_Ref_bean_J16
  refine zx_aload_n E 0 dd_Ref_bean_16 rfl rfl ?_
  refine zx_iconst E (1 : Int32) dd_Ref_bean_17 (by decide) ?_
  refine zx_callV_iw (T := zx_TRef) E [.int (1 : Int32)] (fun rZ eZ => zt_Ref_fails _ _ (1 : Int32) h _ eZ) zg_24 Nat.zero_lt_one rfl zc_Ref_109 ⟨by decide, by decide⟩ (Nat.zero_le _) (Nat.zero_le _) rfl rfl (Nat.le_of_ble_eq_true rfl) dd_Ref_bean_18 (fun r1 => ?_)
  exact zx_iret E rfl rfl dd_Ref_bean_21
set_option maxHeartbeats 4000000 in
set_option maxRecDepth 20000 in
theorem zt_Ref_bean (l : Launch) (K : zx_K)  (h : zx_H) (r : (Int32 × zx_H)) (hf : zs_Ref_bean  h = some r) : zx_MR l zm_Ref_bean zy_Ref_bean K [zx_rV K 24 0] h (some (.int r.1)) r.2 := by
  refine zx_ofM (M := zm_Ref_bean) (y := zy_Ref_bean) (r := r) (as := [zx_rV K 24 0]) (ρ := (fun r => ((some (Value.int r.1) : Option Value), r.2))) (by decide) rfl hf (Nat.le_of_ble_eq_true rfl) ?_
  intro B hl hK E
  subst hK
  subst hl
  show zx_X B zm_Ref_bean _ _ 0 0 0 [(0, zx_rV (zx_BK B) 24 0)] [] h
  unfold zs_Ref_bean
  refine zx_aload_n E 0 dd_Ref_bean_0 rfl rfl ?_
  refine zx_getI E zd_Ref_built zg_24 Nat.zero_lt_one zw_1108 dd_Ref_bean_1 ?_
  refine zx_if_ne E 16 dd_Ref_bean_4 rfl ?_ ?_
  rotate_left
  · exact zj_Ref_bean_16 E h
  refine zx_aload_n E 0 dd_Ref_bean_7 rfl rfl ?_
  refine zx_getI E zd_Ref_types zg_24 Nat.zero_lt_one zw_1109 dd_Ref_bean_8 ?_
  refine zx_bipush E (40 : Int32) dd_Ref_bean_11 (by decide) ?_
  refine zx_icmp_ne E 22 dd_Ref_bean_13 rfl ?_ ?_
  · exact zj_Ref_bean_16 E h
  refine zx_aload_n E 0 dd_Ref_bean_22 rfl rfl ?_
  refine zx_iconst E (0 : Int32) dd_Ref_bean_23 (by decide) ?_
  refine zx_putI E zd_Ref_thrown zp_Ref_thrown zg_24 Nat.zero_lt_one rfl rfl zw_1107 dd_Ref_bean_24 ?_
  refine zx_letH (fun h1 => ?_)
  refine zx_aload_n E 0 dd_Ref_bean_27 rfl rfl ?_
  refine zx_iconst E (4 : Int32) dd_Ref_bean_28 (by decide) ?_
  refine zx_callV_iw (T := zx_TRef) E [.int (4 : Int32)] (fun rZ eZ => zt_Ref_newType _ _ (4 : Int32) h1 _ eZ) zg_24 Nat.zero_lt_one rfl zc_Ref_122 ⟨by decide, by decide⟩ (Nat.zero_le _) (Nat.zero_le _) rfl rfl (Nat.le_of_ble_eq_true rfl) dd_Ref_bean_29 (fun r2 => ?_)
  exact zx_iret E rfl rfl dd_Ref_bean_32
set_option maxHeartbeats 4000000 in
set_option maxRecDepth 20000 in
theorem zj_Ref_placeOf_58 {B : zx_B} (E : zx_E B zm_Ref_placeOf) (h : zx_H) (k5 : (Int32 → Int32 → Int32 → Int32 → Option Int32)) (hk5 : ∀ (x1 : Int32) (x2 : Int32) (x3 : Int32) (x4 : Int32), zx_X B zm_Ref_placeOf (zx_QM B (fun r => ((some (Value.int r) : Option Value), h))) (k5 x1 x2 x3 x4) 0 0 5 [(0, zx_rV (zx_BK B) 24 0), (1, .int x1), (2, .int x2), (3, .int x3), (4, .int x4)] [] h) (x1 : Int32) (x2 : Int32) (x4 : Int32) (s0 : Int32) : zx_X B zm_Ref_placeOf (zx_QM B (fun r => ((some (Value.int r) : Option Value), h))) (zs_Ref_placeOf_J58 h k5 x1 x2 x4 s0) 0 0 58 [(0, zx_rV (zx_BK B) 24 0), (1, .int x1), (2, .int x2), (4, .int x4)] [.int s0] h := by
  unfold zs_Ref_placeOf_J58
  refine zx_istore_n E (lv1 := [(3, .int s0), (0, zx_rV (zx_BK B) 24 0), (1, .int x1), (2, .int x2), (4, .int x4)]) dd_Ref_placeOf_58 rfl (by decide) rfl ?_
  refine zx_iinc E 4 (x4 + (1 : Int32)) (lv1 := [(4, .int (x4 + (1 : Int32))), (3, .int s0), (0, zx_rV (zx_BK B) 24 0), (1, .int x1), (2, .int x2)]) dd_Ref_placeOf_59 rfl rfl (by decide) rfl ?_
  refine zx_goto E 5 dd_Ref_placeOf_62 rfl ?_
  refine zx_sub [2, 3, 4, 1, 0] rfl ?_
  exact hk5 x1 x2 s0 (x4 + (1 : Int32))
set_option maxHeartbeats 4000000 in
set_option maxRecDepth 20000 in
theorem zj_Ref_placeOf_36 {B : zx_B} (E : zx_E B zm_Ref_placeOf) (h : zx_H) (k5 : (Int32 → Int32 → Int32 → Int32 → Option Int32)) (hk5 : ∀ (x1 : Int32) (x2 : Int32) (x3 : Int32) (x4 : Int32), zx_X B zm_Ref_placeOf (zx_QM B (fun r => ((some (Value.int r) : Option Value), h))) (k5 x1 x2 x3 x4) 0 0 5 [(0, zx_rV (zx_BK B) 24 0), (1, .int x1), (2, .int x2), (3, .int x3), (4, .int x4)] [] h) (x1 : Int32) (x2 : Int32) (x3 : Int32) (x4 : Int32) : zx_X B zm_Ref_placeOf (zx_QM B (fun r => ((some (Value.int r) : Option Value), h))) (zs_Ref_placeOf_J36 h k5 x1 x2 x3 x4) 0 0 36 [(0, zx_rV (zx_BK B) 24 0), (1, .int x1), (2, .int x2), (3, .int x3), (4, .int x4)] [] h := by
  unfold zs_Ref_placeOf_J36
  refine zx_aload_n E 0 dd_Ref_placeOf_36 rfl rfl ?_
  refine zx_getR E 27 0 zd_Ref_names zg_24 Nat.zero_lt_one (zr_Ref_names _) zw_1112 dd_Ref_placeOf_37 ?_
  refine zx_bipush E (8 : Int32) dd_Ref_placeOf_40 (by decide) ?_
  refine zx_iload_n E 1 dd_Ref_placeOf_42 rfl rfl ?_
  refine zx_imul E dd_Ref_placeOf_43 ?_
  refine zx_iload E 4 dd_Ref_placeOf_44 rfl ?_
  refine zx_iadd E dd_Ref_placeOf_46 ?_
  refine zx_iald E zg_27 Nat.zero_lt_one dd_Ref_placeOf_47 ?_
  refine zx_iload_n E 2 dd_Ref_placeOf_48 rfl rfl ?_
  refine zx_icmp_ne E 57 dd_Ref_placeOf_49 rfl ?_ ?_
  rotate_left
  · refine zx_iload_n E 3 dd_Ref_placeOf_57 rfl rfl ?_
    refine zx_sub [0, 1, 2, 4] rfl ?_
    exact zj_Ref_placeOf_58 E h k5 hk5 x1 x2 x4 x3
  refine zx_iload E 4 dd_Ref_placeOf_52 rfl ?_
  refine zx_goto E 58 dd_Ref_placeOf_54 rfl ?_
  refine zx_sub [0, 1, 2, 4] rfl ?_
  exact zj_Ref_placeOf_58 E h k5 hk5 x1 x2 x4 x4
set_option maxHeartbeats 4000000 in
set_option maxRecDepth 20000 in
theorem zb_Ref_placeOf_5 {B : zx_B} (E : zx_E B zm_Ref_placeOf) (h : zx_H)  (k5 : (Int32 → Int32 → Int32 → Int32 → Option Int32)) (hk5 : ∀ (x1 : Int32) (x2 : Int32) (x3 : Int32) (x4 : Int32), zx_X B zm_Ref_placeOf (zx_QM B (fun r => ((some (Value.int r) : Option Value), h))) (k5 x1 x2 x3 x4) 0 0 5 [(0, zx_rV (zx_BK B) 24 0), (1, .int x1), (2, .int x2), (3, .int x3), (4, .int x4)] [] h) (x1 : Int32) (x2 : Int32) (x3 : Int32) (x4 : Int32) : zx_X B zm_Ref_placeOf (zx_QM B (fun r => ((some (Value.int r) : Option Value), h))) (zs_Ref_placeOf_L5_body h  k5 x1 x2 x3 x4) 0 0 5 [(0, zx_rV (zx_BK B) 24 0), (1, .int x1), (2, .int x2), (3, .int x3), (4, .int x4)] [] h := by
  unfold zs_Ref_placeOf_L5_body
  refine zx_iload E 4 dd_Ref_placeOf_5 rfl ?_
  refine zx_aload_n E 0 dd_Ref_placeOf_7 rfl rfl ?_
  refine zx_getR E 26 0 zd_Ref_size zg_24 Nat.zero_lt_one (zr_Ref_size _) zw_1111 dd_Ref_placeOf_8 ?_
  refine zx_iload_n E 1 dd_Ref_placeOf_11 rfl rfl ?_
  refine zx_iald E zg_26 Nat.zero_lt_one dd_Ref_placeOf_12 ?_
  refine zx_icmp_ge E 65 dd_Ref_placeOf_13 rfl ?_ ?_
  rotate_left
  · refine zx_iload_n E 3 dd_Ref_placeOf_65 rfl rfl ?_
    exact zx_iret E rfl rfl dd_Ref_placeOf_66
  refine zx_aload_n E 0 dd_Ref_placeOf_16 rfl rfl ?_
  refine zx_getR E 25 0 zd_Ref_sort zg_24 Nat.zero_lt_one (zr_Ref_sort _) zw_1110 dd_Ref_placeOf_17 ?_
  refine zx_iload_n E 1 dd_Ref_placeOf_20 rfl rfl ?_
  refine zx_iald E zg_25 Nat.zero_lt_one dd_Ref_placeOf_21 ?_
  refine zx_iconst E (3 : Int32) dd_Ref_placeOf_22 (by decide) ?_
  refine zx_icmp_eq E 36 dd_Ref_placeOf_23 rfl ?_ ?_
  rotate_left
  · exact zj_Ref_placeOf_36 E h k5 hk5 x1 x2 x3 x4
  refine zx_aload_n E 0 dd_Ref_placeOf_26 rfl rfl ?_
  refine zx_getR E 25 0 zd_Ref_sort zg_24 Nat.zero_lt_one (zr_Ref_sort _) zw_1110 dd_Ref_placeOf_27 ?_
  refine zx_iload_n E 1 dd_Ref_placeOf_30 rfl rfl ?_
  refine zx_iald E zg_25 Nat.zero_lt_one dd_Ref_placeOf_31 ?_
  refine zx_iconst E (4 : Int32) dd_Ref_placeOf_32 (by decide) ?_
  refine zx_icmp_ne E 65 dd_Ref_placeOf_33 rfl ?_ ?_
  · exact zj_Ref_placeOf_36 E h k5 hk5 x1 x2 x3 x4
  refine zx_iload_n E 3 dd_Ref_placeOf_65 rfl rfl ?_
  exact zx_iret E rfl rfl dd_Ref_placeOf_66
theorem zj_Ref_placeOf_5 {B : zx_B} (E : zx_E B zm_Ref_placeOf) (h : zx_H)  : ∀ (x1 : Int32) (x2 : Int32) (x3 : Int32) (x4 : Int32), zx_X B zm_Ref_placeOf (zx_QM B (fun r => ((some (Value.int r) : Option Value), h))) (zs_Ref_placeOf_L5 h  x1 x2 x3 x4) 0 0 5 [(0, zx_rV (zx_BK B) 24 0), (1, .int x1), (2, .int x2), (3, .int x3), (4, .int x4)] [] h := by
  unfold zs_Ref_placeOf_L5
  generalize zx_fuel = n
  induction n with
  | zero => intros; exact zx_non
  | succ n ih => intro x1 x2 x3 x4; exact zb_Ref_placeOf_5 E h  _ ih x1 x2 x3 x4
set_option maxHeartbeats 4000000 in
set_option maxRecDepth 20000 in
theorem zt_Ref_placeOf (l : Launch) (K : zx_K) (a1 : Int32) (a2 : Int32) (h : zx_H) (r : Int32) (hf : zs_Ref_placeOf a1 a2 h = some r) : zx_MR l zm_Ref_placeOf zy_Ref_placeOf K [zx_rV K 24 0, .int a1, .int a2] h (some (.int r)) h := by
  refine zx_ofM (M := zm_Ref_placeOf) (y := zy_Ref_placeOf) (r := r) (as := [zx_rV K 24 0, .int a1, .int a2]) (ρ := (fun r => ((some (Value.int r) : Option Value), h))) (by decide) rfl hf (Nat.le_of_ble_eq_true rfl) ?_
  intro B hl hK E
  subst hK
  subst hl
  show zx_X B zm_Ref_placeOf _ _ 0 0 0 [(0, zx_rV (zx_BK B) 24 0), (1, .int a1), (2, .int a2)] [] h
  unfold zs_Ref_placeOf
  refine zx_iconst E (-1 : Int32) dd_Ref_placeOf_0 (by decide) ?_
  refine zx_istore_n E (lv1 := [(3, .int (-1 : Int32)), (0, zx_rV (zx_BK B) 24 0), (1, .int a1), (2, .int a2)]) dd_Ref_placeOf_1 rfl (by decide) rfl ?_
  refine zx_iconst E (0 : Int32) dd_Ref_placeOf_2 (by decide) ?_
  refine zx_istore E (lv1 := [(4, .int (0 : Int32)), (3, .int (-1 : Int32)), (0, zx_rV (zx_BK B) 24 0), (1, .int a1), (2, .int a2)]) dd_Ref_placeOf_3 (by decide) rfl ?_
  refine zx_sub [2, 3, 4, 1, 0] rfl ?_
  exact zj_Ref_placeOf_5 E h a1 a2 (-1 : Int32) (0 : Int32)
set_option maxHeartbeats 4000000 in
set_option maxRecDepth 20000 in
theorem zj_Ref_property_33 {B : zx_B} (E : zx_E B zm_Ref_property)   (h : zx_H) : zx_X B zm_Ref_property (zx_QM B (fun r => ((some (Value.int r.1) : Option Value), r.2))) (zs_Ref_property_J33  h) 0 0 33 [(0, zx_rV (zx_BK B) 24 0)] [] h := by
  unfold zs_Ref_property_J33
  refine zx_aload_n E 0 dd_Ref_property_33 rfl rfl ?_
  refine zx_iconst E (1 : Int32) dd_Ref_property_34 (by decide) ?_
  refine zx_callV_iw (T := zx_TRef) E [.int (1 : Int32)] (fun rZ eZ => zt_Ref_fails _ _ (1 : Int32) h _ eZ) zg_24 Nat.zero_lt_one rfl zc_Ref_109 ⟨by decide, by decide⟩ (Nat.zero_le _) (Nat.zero_le _) rfl rfl (Nat.le_of_ble_eq_true rfl) dd_Ref_property_35 (fun r1 => ?_)
  exact zx_iret E rfl rfl dd_Ref_property_38
set_option maxHeartbeats 4000000 in
set_option maxRecDepth 20000 in
theorem zj_Ref_property_64 {B : zx_B} (E : zx_E B zm_Ref_property)   (h : zx_H) : zx_X B zm_Ref_property (zx_QM B (fun r => ((some (Value.int r.1) : Option Value), r.2))) (zs_Ref_property_J64  h) 0 0 64 [(0, zx_rV (zx_BK B) 24 0)] [] h := by
  unfold zs_Ref_property_J64
  refine zx_aload_n E 0 dd_Ref_property_64 rfl rfl ?_
  refine zx_iconst E (2 : Int32) dd_Ref_property_65 (by decide) ?_
  refine zx_callV_iw (T := zx_TRef) E [.int (2 : Int32)] (fun rZ eZ => zt_Ref_fails _ _ (2 : Int32) h _ eZ) zg_24 Nat.zero_lt_one rfl zc_Ref_109 ⟨by decide, by decide⟩ (Nat.zero_le _) (Nat.zero_le _) rfl rfl (Nat.le_of_ble_eq_true rfl) dd_Ref_property_66 (fun r1 => ?_)
  exact zx_iret E rfl rfl dd_Ref_property_69
set_option maxHeartbeats 4000000 in
set_option maxRecDepth 20000 in
theorem zt_Ref_property (l : Launch) (K : zx_K) (a1 : Int32) (a2 : Int32) (a3 : Int32) (h : zx_H) (r : (Int32 × zx_H)) (hf : zs_Ref_property a1 a2 a3 h = some r) : zx_MR l zm_Ref_property zy_Ref_property K [zx_rV K 24 0, .int a1, .int a2, .int a3] h (some (.int r.1)) r.2 := by
  refine zx_ofM (M := zm_Ref_property) (y := zy_Ref_property) (r := r) (as := [zx_rV K 24 0, .int a1, .int a2, .int a3]) (ρ := (fun r => ((some (Value.int r.1) : Option Value), r.2))) (by decide) rfl hf (Nat.le_of_ble_eq_true rfl) ?_
  intro B hl hK E
  subst hK
  subst hl
  show zx_X B zm_Ref_property _ _ 0 0 0 [(0, zx_rV (zx_BK B) 24 0), (1, .int a1), (2, .int a2), (3, .int a3)] [] h
  unfold zs_Ref_property
  refine zx_aload_n E 0 dd_Ref_property_0 rfl rfl ?_
  refine zx_iload_n E 1 dd_Ref_property_1 rfl rfl ?_
  refine zx_iconst E (4 : Int32) dd_Ref_property_2 (by decide) ?_
  refine zx_callV_z (T := zx_TRef) E [.int a1, .int (4 : Int32)] (fun rZ eZ => zt_Ref_isSort _ _ a1 (4 : Int32) h _ eZ) zg_24 Nat.zero_lt_one rfl zc_Ref_125 ⟨by decide, by decide⟩ (Nat.zero_le _) (Nat.zero_le _) rfl rfl (Nat.le_of_ble_eq_true rfl) dd_Ref_property_3 (fun r1 => ?_)
  refine zx_ifb_eq E (x := r1) 33 dd_Ref_property_6 rfl ?_ ?_
  rotate_left
  · refine zx_sub [0] rfl ?_
    exact zj_Ref_property_33 E h
  refine zx_iload_n E 2 dd_Ref_property_9 rfl rfl ?_
  refine zx_callS_z E [.int a2] (fun rZ eZ => zt_Ref_isName _ _ a2 h _ eZ) zc_Ref_115 ⟨by decide, by decide⟩ (Nat.zero_le _) (Nat.zero_le _) rfl rfl (Nat.le_of_ble_eq_true rfl) dd_Ref_property_10 (fun r2 => ?_)
  refine zx_ifb_eq E (x := r2) 33 dd_Ref_property_13 rfl ?_ ?_
  rotate_left
  · refine zx_sub [0] rfl ?_
    exact zj_Ref_property_33 E h
  refine zx_aload_n E 0 dd_Ref_property_16 rfl rfl ?_
  refine zx_iload_n E 3 dd_Ref_property_17 rfl rfl ?_
  refine zx_callV_z (T := zx_TRef) E [.int a3] (fun rZ eZ => zt_Ref_isType _ _ a3 h _ eZ) zg_24 Nat.zero_lt_one rfl zc_Ref_105 ⟨by decide, by decide⟩ (Nat.zero_le _) (Nat.zero_le _) rfl rfl (Nat.le_of_ble_eq_true rfl) dd_Ref_property_18 (fun r3 => ?_)
  refine zx_ifb_eq E (x := r3) 33 dd_Ref_property_21 rfl ?_ ?_
  rotate_left
  · refine zx_sub [0] rfl ?_
    exact zj_Ref_property_33 E h
  refine zx_aload_n E 0 dd_Ref_property_24 rfl rfl ?_
  refine zx_iload_n E 1 dd_Ref_property_25 rfl rfl ?_
  refine zx_iload_n E 2 dd_Ref_property_26 rfl rfl ?_
  refine zx_callV_i (T := zx_TRef) E [.int a1, .int a2] (fun rZ eZ => zt_Ref_placeOf _ _ a1 a2 h _ eZ) zg_24 Nat.zero_lt_one rfl zc_Ref_129 ⟨by decide, by decide⟩ (Nat.zero_le _) (Nat.zero_le _) rfl rfl (Nat.le_of_ble_eq_true rfl) dd_Ref_property_27 (fun r4 => ?_)
  refine zx_if_lt E 39 dd_Ref_property_30 rfl ?_ ?_
  · refine zx_sub [0] rfl ?_
    exact zj_Ref_property_33 E h
  refine zx_aload_n E 0 dd_Ref_property_39 rfl rfl ?_
  refine zx_getI E zd_Ref_built zg_24 Nat.zero_lt_one zw_1108 dd_Ref_property_40 ?_
  refine zx_if_ne E 64 dd_Ref_property_43 rfl ?_ ?_
  rotate_left
  · refine zx_sub [0] rfl ?_
    exact zj_Ref_property_64 E h
  refine zx_aload_n E 0 dd_Ref_property_46 rfl rfl ?_
  refine zx_getR E 26 0 zd_Ref_size zg_24 Nat.zero_lt_one (zr_Ref_size _) zw_1111 dd_Ref_property_47 ?_
  refine zx_iload_n E 1 dd_Ref_property_50 rfl rfl ?_
  refine zx_iald E zg_26 Nat.zero_lt_one dd_Ref_property_51 ?_
  refine zx_bipush E (8 : Int32) dd_Ref_property_52 (by decide) ?_
  refine zx_icmp_eq E 64 dd_Ref_property_54 rfl ?_ ?_
  rotate_left
  · refine zx_sub [0] rfl ?_
    exact zj_Ref_property_64 E h
  refine zx_aload_n E 0 dd_Ref_property_57 rfl rfl ?_
  refine zx_getI E zd_Ref_objects zg_24 Nat.zero_lt_one zw_1130 dd_Ref_property_58 ?_
  refine zx_if_le E 70 dd_Ref_property_61 rfl ?_ ?_
  · refine zx_sub [0] rfl ?_
    exact zj_Ref_property_64 E h
  refine zx_aload_n E 0 dd_Ref_property_70 rfl rfl ?_
  refine zx_iconst E (0 : Int32) dd_Ref_property_71 (by decide) ?_
  refine zx_putI E zd_Ref_thrown zp_Ref_thrown zg_24 Nat.zero_lt_one rfl rfl zw_1107 dd_Ref_property_72 ?_
  refine zx_letH (fun h5 => ?_)
  refine zx_aload_n E 0 dd_Ref_property_75 rfl rfl ?_
  refine zx_getR E 27 0 zd_Ref_names zg_24 Nat.zero_lt_one (zr_Ref_names _) zw_1112 dd_Ref_property_76 ?_
  refine zx_bipush E (8 : Int32) dd_Ref_property_79 (by decide) ?_
  refine zx_iload_n E 1 dd_Ref_property_81 rfl rfl ?_
  refine zx_imul E dd_Ref_property_82 ?_
  refine zx_aload_n E 0 dd_Ref_property_83 rfl rfl ?_
  refine zx_getR E 26 0 zd_Ref_size zg_24 Nat.zero_lt_one (zr_Ref_size _) zw_1111 dd_Ref_property_84 ?_
  refine zx_iload_n E 1 dd_Ref_property_87 rfl rfl ?_
  refine zx_iald E zg_26 Nat.zero_lt_one dd_Ref_property_88 ?_
  refine zx_iadd E dd_Ref_property_89 ?_
  refine zx_iload_n E 2 dd_Ref_property_90 rfl rfl ?_
  refine zx_iast E zg_27 Nat.zero_lt_one dd_Ref_property_91 ?_
  refine zx_letH (fun h6 => ?_)
  refine zx_aload_n E 0 dd_Ref_property_92 rfl rfl ?_
  refine zx_getR E 28 0 zd_Ref_propertyTypes zg_24 Nat.zero_lt_one (zr_Ref_propertyTypes _) zw_1113 dd_Ref_property_93 ?_
  refine zx_bipush E (8 : Int32) dd_Ref_property_96 (by decide) ?_
  refine zx_iload_n E 1 dd_Ref_property_98 rfl rfl ?_
  refine zx_imul E dd_Ref_property_99 ?_
  refine zx_aload_n E 0 dd_Ref_property_100 rfl rfl ?_
  refine zx_getR E 26 0 zd_Ref_size zg_24 Nat.zero_lt_one (zr_Ref_size _) zw_1111 dd_Ref_property_101 ?_
  refine zx_iload_n E 1 dd_Ref_property_104 rfl rfl ?_
  refine zx_iald E zg_26 Nat.zero_lt_one dd_Ref_property_105 ?_
  refine zx_iadd E dd_Ref_property_106 ?_
  refine zx_iload_n E 3 dd_Ref_property_107 rfl rfl ?_
  refine zx_iast E zg_28 Nat.zero_lt_one dd_Ref_property_108 ?_
  refine zx_letH (fun h7 => ?_)
  refine zx_aload_n E 0 dd_Ref_property_109 rfl rfl ?_
  refine zx_getR E 26 0 zd_Ref_size zg_24 Nat.zero_lt_one (zr_Ref_size _) zw_1111 dd_Ref_property_110 ?_
  refine zx_iload_n E 1 dd_Ref_property_113 rfl rfl ?_
  refine zx_dup2 E dd_Ref_property_114 rfl rfl ?_
  refine zx_iald E zg_26 Nat.zero_lt_one dd_Ref_property_115 ?_
  refine zx_iconst E (1 : Int32) dd_Ref_property_116 (by decide) ?_
  refine zx_iadd E dd_Ref_property_117 ?_
  refine zx_iast E zg_26 Nat.zero_lt_one dd_Ref_property_118 ?_
  refine zx_letH (fun h8 => ?_)
  refine zx_aload_n E 0 dd_Ref_property_119 rfl rfl ?_
  refine zx_getR E 26 0 zd_Ref_size zg_24 Nat.zero_lt_one (zr_Ref_size _) zw_1111 dd_Ref_property_120 ?_
  refine zx_iload_n E 1 dd_Ref_property_123 rfl rfl ?_
  refine zx_iald E zg_26 Nat.zero_lt_one dd_Ref_property_124 ?_
  refine zx_iconst E (1 : Int32) dd_Ref_property_125 (by decide) ?_
  refine zx_isub E dd_Ref_property_126 ?_
  exact zx_iret E rfl rfl dd_Ref_property_127
