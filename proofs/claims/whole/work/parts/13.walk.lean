/-! walks (printed by gen.py) -/
set_option maxHeartbeats 4000000 in
set_option maxRecDepth 20000 in
theorem zj_Ref_build_49 {B : zx_B} (E : zx_E B zm_Ref_build)  (x1 : Bool) (h : zx_H) : zx_X B zm_Ref_build (zx_QM B (fun r => ((some (Value.int r.1) : Option Value), r.2))) (zs_Ref_build_J49  x1 h) 0 0 49 [(0, zx_rV (zx_BK B) 24 0), (1, .int (zx_b x1))] [] h := by
  unfold zs_Ref_build_J49
  refine zx_iload_n E 1 dd_Ref_build_49 rfl rfl ?_
  refine zx_ifb_eq E (x := x1) 59 dd_Ref_build_50 rfl ?_ ?_
  · refine zx_aload_n E 0 dd_Ref_build_53 rfl rfl ?_
    refine zx_iconst E (1 : Int32) dd_Ref_build_54 (by decide) ?_
    refine zx_callV_iw (T := zx_TRef) E [.int (1 : Int32)] (fun rZ eZ => zt_Ref_fails _ _ (1 : Int32) h _ eZ) zg_24 Nat.zero_lt_one rfl zc_Ref_109 ⟨by decide, by decide⟩ (Nat.zero_le _) (Nat.zero_le _) rfl rfl (Nat.le_of_ble_eq_true rfl) dd_Ref_build_55 (fun r1 => ?_)
    exact zx_iret E rfl rfl dd_Ref_build_58
  refine zx_aload_n E 0 dd_Ref_build_59 rfl rfl ?_
  refine zx_iconst E (0 : Int32) dd_Ref_build_60 (by decide) ?_
  refine zx_putI E zd_Ref_thrown zp_Ref_thrown zg_24 Nat.zero_lt_one rfl rfl zw_1107 dd_Ref_build_61 ?_
  refine zx_letH (fun h2 => ?_)
  refine zx_aload_n E 0 dd_Ref_build_64 rfl rfl ?_
  refine zx_iconst E (1 : Int32) dd_Ref_build_65 (by decide) ?_
  refine zx_putI E zd_Ref_built zp_Ref_built zg_24 Nat.zero_lt_one rfl rfl zw_1108 dd_Ref_build_66 ?_
  refine zx_letH (fun h3 => ?_)
  refine zx_aload_n E 0 dd_Ref_build_69 rfl rfl ?_
  refine zx_getI E zd_Ref_methods zg_24 Nat.zero_lt_one zw_1115 dd_Ref_build_70 ?_
  exact zx_iret E rfl rfl dd_Ref_build_73
set_option maxHeartbeats 4000000 in
set_option maxRecDepth 20000 in
theorem zb_Ref_build_25 {B : zx_B} (E : zx_E B zm_Ref_build)  (k25 : (Bool → Int32 → zx_H → Option (Int32 × zx_H))) (hk25 : ∀ (x1 : Bool) (x2 : Int32) (h : zx_H), zx_X B zm_Ref_build (zx_QM B (fun r => ((some (Value.int r.1) : Option Value), r.2))) (k25 x1 x2 h) 0 0 25 [(0, zx_rV (zx_BK B) 24 0), (1, .int (zx_b x1)), (2, .int x2)] [] h) (x1 : Bool) (x2 : Int32) (h : zx_H) : zx_X B zm_Ref_build (zx_QM B (fun r => ((some (Value.int r.1) : Option Value), r.2))) (zs_Ref_build_L25_body  k25 x1 x2 h) 0 0 25 [(0, zx_rV (zx_BK B) 24 0), (1, .int (zx_b x1)), (2, .int x2)] [] h := by
  unfold zs_Ref_build_L25_body
  refine zx_iload_n E 2 dd_Ref_build_25 rfl rfl ?_
  refine zx_aload_n E 0 dd_Ref_build_26 rfl rfl ?_
  refine zx_getI E zd_Ref_methods zg_24 Nat.zero_lt_one zw_1115 dd_Ref_build_27 ?_
  refine zx_icmp_ge E 49 dd_Ref_build_30 rfl ?_ ?_
  rotate_left
  · refine zx_sub [0, 1] rfl ?_
    exact zj_Ref_build_49 E x1 h
  refine zx_iload_n E 1 dd_Ref_build_33 rfl rfl ?_
  refine zx_ifb_ne E (x := x1) 49 dd_Ref_build_34 rfl ?_ ?_
  rotate_left
  · refine zx_sub [0, 1] rfl ?_
    exact zj_Ref_build_49 E x1 h
  refine zx_aload_n E 0 dd_Ref_build_37 rfl rfl ?_
  refine zx_iload_n E 2 dd_Ref_build_38 rfl rfl ?_
  refine zx_callV_zw (T := zx_TRef) E [.int x2] (fun rZ eZ => zt_Ref_isFaulty _ _ x2 h _ eZ) zg_24 Nat.zero_lt_one rfl zc_Ref_217 ⟨by decide, by decide⟩ (Nat.zero_le _) (Nat.zero_le _) rfl rfl (Nat.le_of_ble_eq_true rfl) dd_Ref_build_39 (fun r1 => ?_)
  refine zx_istore_n E (lv1 := [(1, .int (zx_b r1.1)), (0, zx_rV (zx_BK B) 24 0), (2, .int x2)]) dd_Ref_build_42 rfl (by decide) rfl ?_
  refine zx_iinc E 2 (x2 + (1 : Int32)) (lv1 := [(2, .int (x2 + (1 : Int32))), (1, .int (zx_b r1.1)), (0, zx_rV (zx_BK B) 24 0)]) dd_Ref_build_43 rfl rfl (by decide) rfl ?_
  refine zx_goto E 25 dd_Ref_build_46 rfl ?_
  refine zx_sub [2, 1, 0] rfl ?_
  exact hk25 r1.1 (x2 + (1 : Int32)) r1.2
theorem zj_Ref_build_25 {B : zx_B} (E : zx_E B zm_Ref_build)  : ∀ (x1 : Bool) (x2 : Int32) (h : zx_H), zx_X B zm_Ref_build (zx_QM B (fun r => ((some (Value.int r.1) : Option Value), r.2))) (zs_Ref_build_L25  x1 x2 h) 0 0 25 [(0, zx_rV (zx_BK B) 24 0), (1, .int (zx_b x1)), (2, .int x2)] [] h := by
  unfold zs_Ref_build_L25
  generalize zx_fuel = n
  induction n with
  | zero => intros; exact zx_non
  | succ n ih => intro x1 x2 h; exact zb_Ref_build_25 E  _ ih x1 x2 h
set_option maxHeartbeats 4000000 in
set_option maxRecDepth 20000 in
theorem zt_Ref_build (l : Launch) (K : zx_K)  (h : zx_H) (r : (Int32 × zx_H)) (hf : zs_Ref_build  h = some r) : zx_MR l zm_Ref_build zy_Ref_build K [zx_rV K 24 0] h (some (.int r.1)) r.2 := by
  refine zx_ofM (M := zm_Ref_build) (y := zy_Ref_build) (r := r) (as := [zx_rV K 24 0]) (ρ := (fun r => ((some (Value.int r.1) : Option Value), r.2))) (by decide) rfl hf (Nat.le_of_ble_eq_true rfl) ?_
  intro B hl hK E
  subst hK
  subst hl
  show zx_X B zm_Ref_build _ _ 0 0 0 [(0, zx_rV (zx_BK B) 24 0)] [] h
  unfold zs_Ref_build
  refine zx_aload_n E 0 dd_Ref_build_0 rfl rfl ?_
  refine zx_getI E zd_Ref_built zg_24 Nat.zero_lt_one zw_1108 dd_Ref_build_1 ?_
  refine zx_if_eq E 13 dd_Ref_build_4 rfl ?_ ?_
  · refine zx_aload_n E 0 dd_Ref_build_7 rfl rfl ?_
    refine zx_iconst E (2 : Int32) dd_Ref_build_8 (by decide) ?_
    refine zx_callV_iw (T := zx_TRef) E [.int (2 : Int32)] (fun rZ eZ => zt_Ref_fails _ _ (2 : Int32) h _ eZ) zg_24 Nat.zero_lt_one rfl zc_Ref_109 ⟨by decide, by decide⟩ (Nat.zero_le _) (Nat.zero_le _) rfl rfl (Nat.le_of_ble_eq_true rfl) dd_Ref_build_9 (fun r1 => ?_)
    exact zx_iret E rfl rfl dd_Ref_build_12
  refine zx_aload_n E 0 dd_Ref_build_13 rfl rfl ?_
  refine zx_iconst E (0 : Int32) dd_Ref_build_14 (by decide) ?_
  refine zx_iconst E (-1 : Int32) dd_Ref_build_15 (by decide) ?_
  refine zx_iconst E (-1 : Int32) dd_Ref_build_16 (by decide) ?_
  refine zx_callV_zw (T := zx_TRef) E [.int (0 : Int32), .int (-1 : Int32), .int (-1 : Int32)] (fun rZ eZ => zt_Ref_faulty _ _ (0 : Int32) (-1 : Int32) (-1 : Int32) h _ eZ) zg_24 Nat.zero_lt_one rfl zc_Ref_204 ⟨by decide, by decide⟩ (Nat.zero_le _) (Nat.zero_le _) rfl rfl (Nat.le_of_ble_eq_true rfl) dd_Ref_build_17 (fun r2 => ?_)
  refine zx_istore_n E (lv1 := [(1, .int (zx_b r2.1)), (0, zx_rV (zx_BK B) 24 0)]) dd_Ref_build_20 rfl (by decide) rfl ?_
  refine zx_iconst E (0 : Int32) dd_Ref_build_21 (by decide) ?_
  refine zx_istore_n E (lv1 := [(1, .int (0 : Int32)), (0, zx_rV (zx_BK B) 24 0)]) dd_Ref_build_22 rfl (by decide) rfl ?_
  refine zx_iconst E (0 : Int32) dd_Ref_build_23 (by decide) ?_
  refine zx_istore_n E (lv1 := [(2, .int (0 : Int32)), (1, .int (0 : Int32)), (0, zx_rV (zx_BK B) 24 0)]) dd_Ref_build_24 rfl (by decide) rfl ?_
  refine zx_sub [2, 1, 0] rfl ?_
  exact zj_Ref_build_25 E false (0 : Int32) r2.2
set_option maxHeartbeats 4000000 in
set_option maxRecDepth 20000 in
theorem zt_Ref_diagnosis (l : Launch) (K : zx_K) (a1 : Int32) (h : zx_H) (r : (Int32 × zx_H)) (hf : zs_Ref_diagnosis a1 h = some r) : zx_MR l zm_Ref_diagnosis zy_Ref_diagnosis K [zx_rV K 24 0, .int a1] h (some (.int r.1)) r.2 := by
  refine zx_ofM (M := zm_Ref_diagnosis) (y := zy_Ref_diagnosis) (r := r) (as := [zx_rV K 24 0, .int a1]) (ρ := (fun r => ((some (Value.int r.1) : Option Value), r.2))) (by decide) rfl hf (Nat.le_of_ble_eq_true rfl) ?_
  intro B hl hK E
  subst hK
  subst hl
  show zx_X B zm_Ref_diagnosis _ _ 0 0 0 [(0, zx_rV (zx_BK B) 24 0), (1, .int a1)] [] h
  unfold zs_Ref_diagnosis
  refine zx_aload_n E 0 dd_Ref_diagnosis_0 rfl rfl ?_
  refine zx_iconst E (0 : Int32) dd_Ref_diagnosis_1 (by decide) ?_
  refine zx_putI E zd_Ref_thrown zp_Ref_thrown zg_24 Nat.zero_lt_one rfl rfl zw_1107 dd_Ref_diagnosis_2 ?_
  refine zx_letH (fun h1 => ?_)
  refine zx_iload_n E 1 dd_Ref_diagnosis_5 rfl rfl ?_
  refine zx_if_ne E 16 dd_Ref_diagnosis_6 rfl ?_ ?_
  · refine zx_aload_n E 0 dd_Ref_diagnosis_9 rfl rfl ?_
    refine zx_getI E zd_Ref_diagnosis zg_24 Nat.zero_lt_one zw_1127 dd_Ref_diagnosis_10 ?_
    refine zx_goto E 41 dd_Ref_diagnosis_13 rfl ?_
    exact zx_iret E rfl rfl dd_Ref_diagnosis_41
  refine zx_iload_n E 1 dd_Ref_diagnosis_16 rfl rfl ?_
  refine zx_iconst E (1 : Int32) dd_Ref_diagnosis_17 (by decide) ?_
  refine zx_icmp_ne E 28 dd_Ref_diagnosis_18 rfl ?_ ?_
  · refine zx_aload_n E 0 dd_Ref_diagnosis_21 rfl rfl ?_
    refine zx_getI E zd_Ref_faultyMethod zg_24 Nat.zero_lt_one zw_1128 dd_Ref_diagnosis_22 ?_
    refine zx_goto E 41 dd_Ref_diagnosis_25 rfl ?_
    exact zx_iret E rfl rfl dd_Ref_diagnosis_41
  refine zx_iload_n E 1 dd_Ref_diagnosis_28 rfl rfl ?_
  refine zx_iconst E (2 : Int32) dd_Ref_diagnosis_29 (by decide) ?_
  refine zx_icmp_ne E 40 dd_Ref_diagnosis_30 rfl ?_ ?_
  rotate_left
  · refine zx_iconst E (-1 : Int32) dd_Ref_diagnosis_40 (by decide) ?_
    exact zx_iret E rfl rfl dd_Ref_diagnosis_41
  refine zx_aload_n E 0 dd_Ref_diagnosis_33 rfl rfl ?_
  refine zx_getI E zd_Ref_faultyPlace zg_24 Nat.zero_lt_one zw_1129 dd_Ref_diagnosis_34 ?_
  refine zx_goto E 41 dd_Ref_diagnosis_37 rfl ?_
  exact zx_iret E rfl rfl dd_Ref_diagnosis_41
set_option maxHeartbeats 4000000 in
set_option maxRecDepth 20000 in
theorem zt_Ref_cast (l : Launch) (K : zx_K) (a0 : Int64) (a2 : Int32) (h : zx_H) (r : Int64) (hf : zs_Ref_cast a0 a2 h = some r) : zx_MR l zm_Ref_cast zy_Ref_cast K [.long a0, .int a2] h (some (.long r)) h := by
  refine zx_ofM (M := zm_Ref_cast) (y := zy_Ref_cast) (r := r) (as := [.long a0, .int a2]) (ρ := (fun r => ((some (Value.long r) : Option Value), h))) (by decide) rfl hf (Nat.le_of_ble_eq_true rfl) ?_
  intro B hl hK E
  subst hK
  subst hl
  show zx_X B zm_Ref_cast _ _ 0 0 0 [(0, .long a0), (2, .int a2)] [] h
  unfold zs_Ref_cast
  refine zx_iload_n E 1 dd_Ref_cast_0 rfl rfl ?_
  refine zx_if_ne E 11 dd_Ref_cast_1 rfl ?_ ?_
  · refine zx_lload_n E 0 dd_Ref_cast_4 rfl rfl ?_
    refine zx_l2i E dd_Ref_cast_5 ?_
    refine zx_i2b E dd_Ref_cast_6 ?_
    refine zx_i2l E dd_Ref_cast_7 ?_
    refine zx_goto E 58 dd_Ref_cast_8 rfl ?_
    exact zx_lret E rfl rfl dd_Ref_cast_58
  refine zx_iload_n E 1 dd_Ref_cast_11 rfl rfl ?_
  refine zx_iconst E (1 : Int32) dd_Ref_cast_12 (by decide) ?_
  refine zx_icmp_ne E 23 dd_Ref_cast_13 rfl ?_ ?_
  · refine zx_lload_n E 0 dd_Ref_cast_16 rfl rfl ?_
    refine zx_l2i E dd_Ref_cast_17 ?_
    refine zx_i2s E dd_Ref_cast_18 ?_
    refine zx_i2l E dd_Ref_cast_19 ?_
    refine zx_goto E 58 dd_Ref_cast_20 rfl ?_
    exact zx_lret E rfl rfl dd_Ref_cast_58
  refine zx_iload_n E 1 dd_Ref_cast_23 rfl rfl ?_
  refine zx_iconst E (2 : Int32) dd_Ref_cast_24 (by decide) ?_
  refine zx_icmp_ne E 35 dd_Ref_cast_25 rfl ?_ ?_
  · refine zx_lload_n E 0 dd_Ref_cast_28 rfl rfl ?_
    refine zx_l2i E dd_Ref_cast_29 ?_
    refine zx_i2c E dd_Ref_cast_30 ?_
    refine zx_i2l E dd_Ref_cast_31 ?_
    refine zx_goto E 58 dd_Ref_cast_32 rfl ?_
    exact zx_lret E rfl rfl dd_Ref_cast_58
  refine zx_iload_n E 1 dd_Ref_cast_35 rfl rfl ?_
  refine zx_iconst E (3 : Int32) dd_Ref_cast_36 (by decide) ?_
  refine zx_icmp_ne E 46 dd_Ref_cast_37 rfl ?_ ?_
  · refine zx_lload_n E 0 dd_Ref_cast_40 rfl rfl ?_
    refine zx_l2i E dd_Ref_cast_41 ?_
    refine zx_i2l E dd_Ref_cast_42 ?_
    refine zx_goto E 58 dd_Ref_cast_43 rfl ?_
    exact zx_lret E rfl rfl dd_Ref_cast_58
  refine zx_iload_n E 1 dd_Ref_cast_46 rfl rfl ?_
  refine zx_iconst E (5 : Int32) dd_Ref_cast_47 (by decide) ?_
  refine zx_icmp_ne E 57 dd_Ref_cast_48 rfl ?_ ?_
  rotate_left
  · refine zx_lload_n E 0 dd_Ref_cast_57 rfl rfl ?_
    exact zx_lret E rfl rfl dd_Ref_cast_58
  refine zx_lload_n E 0 dd_Ref_cast_51 rfl rfl ?_
  refine zx_lconst E (1 : Int64) dd_Ref_cast_52 rfl ?_
  refine zx_land E dd_Ref_cast_53 ?_
  refine zx_goto E 58 dd_Ref_cast_54 rfl ?_
  exact zx_lret E rfl rfl dd_Ref_cast_58
set_option maxHeartbeats 4000000 in
set_option maxRecDepth 20000 in
theorem zj_Ref_isValue_93 {B : zx_B} (E : zx_E B zm_Ref_isValue) (h : zx_H)   : zx_X B zm_Ref_isValue (zx_QM B (fun r => ((some (Value.int (zx_b r)) : Option Value), h))) (zs_Ref_isValue_J93 h  ) 0 0 93 [] [] h := by
  unfold zs_Ref_isValue_J93
  refine zx_iconst E (0 : Int32) dd_Ref_isValue_93 (by decide) ?_
  refine zx_goto E 149 dd_Ref_isValue_94 rfl ?_
  exact zx_zret E false rfl rfl rfl dd_Ref_isValue_149
set_option maxHeartbeats 4000000 in
set_option maxRecDepth 20000 in
theorem zj_Ref_isValue_148 {B : zx_B} (E : zx_E B zm_Ref_isValue) (h : zx_H)   : zx_X B zm_Ref_isValue (zx_QM B (fun r => ((some (Value.int (zx_b r)) : Option Value), h))) (zs_Ref_isValue_J148 h  ) 0 0 148 [] [] h := by
  unfold zs_Ref_isValue_J148
  refine zx_iconst E (0 : Int32) dd_Ref_isValue_148 (by decide) ?_
  exact zx_zret E false rfl rfl rfl dd_Ref_isValue_149
set_option maxHeartbeats 4000000 in
set_option maxRecDepth 20000 in
theorem zj_Ref_isValue_138 {B : zx_B} (E : zx_E B zm_Ref_isValue) (h : zx_H)  (x1 : Int32) (s1 : Int64) : zx_X B zm_Ref_isValue (zx_QM B (fun r => ((some (Value.int (zx_b r)) : Option Value), h))) (zs_Ref_isValue_J138 h  x1 s1) 0 0 138 [(1, .int x1)] [.long s1, zx_rV (zx_BK B) 40 0] h := by
  unfold zs_Ref_isValue_J138
  refine zx_l2i E dd_Ref_isValue_138 ?_
  refine zx_iald E zg_40 Nat.zero_lt_one dd_Ref_isValue_139 ?_
  refine zx_iload_n E 0 dd_Ref_isValue_140 rfl rfl ?_
  refine zx_icmp_ne E 148 dd_Ref_isValue_141 rfl ?_ ?_
  rotate_left
  · refine zx_sub [] rfl ?_
    exact zj_Ref_isValue_148 E h
  refine zx_iconst E (1 : Int32) dd_Ref_isValue_144 (by decide) ?_
  refine zx_goto E 149 dd_Ref_isValue_145 rfl ?_
  exact zx_zret E true rfl rfl rfl dd_Ref_isValue_149
set_option maxHeartbeats 4000000 in
set_option maxRecDepth 20000 in
theorem zj_Ref_isValue_137 {B : zx_B} (E : zx_E B zm_Ref_isValue) (h : zx_H)  (x1 : Int32) : zx_X B zm_Ref_isValue (zx_QM B (fun r => ((some (Value.int (zx_b r)) : Option Value), h))) (zs_Ref_isValue_J137 h  x1) 0 0 137 [(1, .int x1)] [zx_rV (zx_BK B) 40 0] h := by
  unfold zs_Ref_isValue_J137
  refine zx_lconst E (0 : Int64) dd_Ref_isValue_137 rfl ?_
  exact zj_Ref_isValue_138 E h x1 (0 : Int64)
set_option maxHeartbeats 4000000 in
set_option maxRecDepth 20000 in
theorem zt_Ref_isValue (l : Launch) (K : zx_K) (a1 : Int32) (a2 : Int64) (h : zx_H) (r : Bool) (hf : zs_Ref_isValue a1 a2 h = some r) : zx_MR l zm_Ref_isValue zy_Ref_isValue K [zx_rV K 24 0, .int a1, .long a2] h (some (.int (zx_b r))) h := by
  refine zx_ofM (M := zm_Ref_isValue) (y := zy_Ref_isValue) (r := r) (as := [zx_rV K 24 0, .int a1, .long a2]) (ρ := (fun r => ((some (Value.int (zx_b r)) : Option Value), h))) (by decide) rfl hf (Nat.le_of_ble_eq_true rfl) ?_
  intro B hl hK E
  subst hK
  subst hl
  show zx_X B zm_Ref_isValue _ _ 0 0 0 [(0, zx_rV (zx_BK B) 24 0), (1, .int a1), (2, .long a2)] [] h
  unfold zs_Ref_isValue
  refine zx_aload_n E 0 dd_Ref_isValue_0 rfl rfl ?_
  refine zx_getR E 25 0 zd_Ref_sort zg_24 Nat.zero_lt_one (zr_Ref_sort _) zw_1110 dd_Ref_isValue_1 ?_
  refine zx_iload_n E 1 dd_Ref_isValue_4 rfl rfl ?_
  refine zx_iald E zg_25 Nat.zero_lt_one dd_Ref_isValue_5 ?_
  refine zx_if_ne E 51 dd_Ref_isValue_6 rfl ?_ ?_
  · refine zx_iload_n E 1 dd_Ref_isValue_9 rfl rfl ?_
    refine zx_bipush E (6 : Int32) dd_Ref_isValue_10 (by decide) ?_
    refine zx_icmp_ne E 35 dd_Ref_isValue_12 rfl ?_ ?_
    · refine zx_lload_n E 2 dd_Ref_isValue_15 rfl rfl ?_
      refine zx_ldc2 E (9223372036854775807 : Int64) zw_1383 dd_Ref_isValue_16 ?_
      refine zx_land E dd_Ref_isValue_19 ?_
      refine zx_ldc2 E (9218868437227405312 : Int64) zw_1384 dd_Ref_isValue_20 ?_
      refine zx_lcmp_gt E 31 dd_Ref_isValue_23 dd_Ref_isValue_24 rfl ?_ ?_
      · refine zx_iconst E (1 : Int32) dd_Ref_isValue_27 (by decide) ?_
        refine zx_goto E 50 dd_Ref_isValue_28 rfl ?_
        exact zx_zret E true rfl rfl rfl dd_Ref_isValue_50
      refine zx_iconst E (0 : Int32) dd_Ref_isValue_31 (by decide) ?_
      refine zx_goto E 50 dd_Ref_isValue_32 rfl ?_
      exact zx_zret E false rfl rfl rfl dd_Ref_isValue_50
    refine zx_lload_n E 2 dd_Ref_isValue_35 rfl rfl ?_
    refine zx_lload_n E 2 dd_Ref_isValue_36 rfl rfl ?_
    refine zx_iload_n E 1 dd_Ref_isValue_37 rfl rfl ?_
    refine zx_callS_l E [.long a2, .int a1] (fun rZ eZ => zt_Ref_cast _ _ a2 a1 h _ eZ) zc_Ref_224 ⟨by decide, by decide⟩ (Nat.zero_le _) (Nat.zero_le _) rfl rfl (Nat.le_of_ble_eq_true rfl) dd_Ref_isValue_38 (fun r1 => ?_)
    refine zx_lcmp_ne E 49 dd_Ref_isValue_41 dd_Ref_isValue_42 rfl ?_ ?_
    rotate_left
    · refine zx_iconst E (0 : Int32) dd_Ref_isValue_49 (by decide) ?_
      exact zx_zret E false rfl rfl rfl dd_Ref_isValue_50
    refine zx_iconst E (1 : Int32) dd_Ref_isValue_45 (by decide) ?_
    refine zx_goto E 50 dd_Ref_isValue_46 rfl ?_
    exact zx_zret E true rfl rfl rfl dd_Ref_isValue_50
  refine zx_lload_n E 2 dd_Ref_isValue_51 rfl rfl ?_
  refine zx_ldc2 E (-1 : Int64) zw_1322 dd_Ref_isValue_52 ?_
  refine zx_lcmp_ne E 61 dd_Ref_isValue_55 dd_Ref_isValue_56 rfl ?_ ?_
  · refine zx_iconst E (1 : Int32) dd_Ref_isValue_59 (by decide) ?_
    exact zx_zret E true rfl rfl rfl dd_Ref_isValue_60
  refine zx_aload_n E 0 dd_Ref_isValue_61 rfl rfl ?_
  refine zx_getR E 25 0 zd_Ref_sort zg_24 Nat.zero_lt_one (zr_Ref_sort _) zw_1110 dd_Ref_isValue_62 ?_
  refine zx_iload_n E 1 dd_Ref_isValue_65 rfl rfl ?_
  refine zx_iald E zg_25 Nat.zero_lt_one dd_Ref_isValue_66 ?_
  refine zx_iconst E (3 : Int32) dd_Ref_isValue_67 (by decide) ?_
  refine zx_icmp_ne E 97 dd_Ref_isValue_68 rfl ?_ ?_
  · refine zx_lload_n E 2 dd_Ref_isValue_71 rfl rfl ?_
    refine zx_lconst E (0 : Int64) dd_Ref_isValue_72 rfl ?_
    refine zx_lcmp_lt E 93 dd_Ref_isValue_73 dd_Ref_isValue_74 rfl ?_ ?_
    rotate_left
    · refine zx_sub [] rfl ?_
      exact zj_Ref_isValue_93 E h
    refine zx_lload_n E 2 dd_Ref_isValue_77 rfl rfl ?_
    refine zx_aload_n E 0 dd_Ref_isValue_78 rfl rfl ?_
    refine zx_getR E 26 0 zd_Ref_size zg_24 Nat.zero_lt_one (zr_Ref_size _) zw_1111 dd_Ref_isValue_79 ?_
    refine zx_iload_n E 1 dd_Ref_isValue_82 rfl rfl ?_
    refine zx_iald E zg_26 Nat.zero_lt_one dd_Ref_isValue_83 ?_
    refine zx_i2l E dd_Ref_isValue_84 ?_
    refine zx_lcmp_ge E 93 dd_Ref_isValue_85 dd_Ref_isValue_86 rfl ?_ ?_
    rotate_left
    · refine zx_sub [] rfl ?_
      exact zj_Ref_isValue_93 E h
    refine zx_iconst E (1 : Int32) dd_Ref_isValue_89 (by decide) ?_
    refine zx_goto E 149 dd_Ref_isValue_90 rfl ?_
    exact zx_zret E true rfl rfl rfl dd_Ref_isValue_149
  refine zx_lload_n E 2 dd_Ref_isValue_97 rfl rfl ?_
  refine zx_lconst E (0 : Int64) dd_Ref_isValue_98 rfl ?_
  refine zx_lcmp_lt E 148 dd_Ref_isValue_99 dd_Ref_isValue_100 rfl ?_ ?_
  rotate_left
  · refine zx_sub [] rfl ?_
    exact zj_Ref_isValue_148 E h
  refine zx_lload_n E 2 dd_Ref_isValue_103 rfl rfl ?_
  refine zx_aload_n E 0 dd_Ref_isValue_104 rfl rfl ?_
  refine zx_getI E zd_Ref_objects zg_24 Nat.zero_lt_one zw_1130 dd_Ref_isValue_105 ?_
  refine zx_i2l E dd_Ref_isValue_108 ?_
  refine zx_lcmp_ge E 148 dd_Ref_isValue_109 dd_Ref_isValue_110 rfl ?_ ?_
  rotate_left
  · refine zx_sub [] rfl ?_
    exact zj_Ref_isValue_148 E h
  refine zx_aload_n E 0 dd_Ref_isValue_113 rfl rfl ?_
  refine zx_getR E 40 0 zd_Ref_type zg_24 Nat.zero_lt_one (zr_Ref_type _) zw_1131 dd_Ref_isValue_114 ?_
  refine zx_lload_n E 2 dd_Ref_isValue_117 rfl rfl ?_
  refine zx_lconst E (0 : Int64) dd_Ref_isValue_118 rfl ?_
  refine zx_lcmp_lt E 137 dd_Ref_isValue_119 dd_Ref_isValue_120 rfl ?_ ?_
  rotate_left
  · refine zx_sub [1] rfl ?_
    exact zj_Ref_isValue_137 E h a1
  refine zx_lload_n E 2 dd_Ref_isValue_123 rfl rfl ?_
  refine zx_aload_n E 0 dd_Ref_isValue_124 rfl rfl ?_
  refine zx_getI E zd_Ref_objects zg_24 Nat.zero_lt_one zw_1130 dd_Ref_isValue_125 ?_
  refine zx_i2l E dd_Ref_isValue_128 ?_
  refine zx_lcmp_ge E 137 dd_Ref_isValue_129 dd_Ref_isValue_130 rfl ?_ ?_
  rotate_left
  · refine zx_sub [1] rfl ?_
    exact zj_Ref_isValue_137 E h a1
  refine zx_lload_n E 2 dd_Ref_isValue_133 rfl rfl ?_
  refine zx_goto E 138 dd_Ref_isValue_134 rfl ?_
  refine zx_sub [1] rfl ?_
  exact zj_Ref_isValue_138 E h a1 a2
set_option maxHeartbeats 4000000 in
set_option maxRecDepth 20000 in
theorem zt_Ref_empty (l : Launch) (K : zx_K) (a1 : Int32) (h : zx_H) (r : Int64) (hf : zs_Ref_empty a1 h = some r) : zx_MR l zm_Ref_empty zy_Ref_empty K [zx_rV K 24 0, .int a1] h (some (.long r)) h := by
  refine zx_ofM (M := zm_Ref_empty) (y := zy_Ref_empty) (r := r) (as := [zx_rV K 24 0, .int a1]) (ρ := (fun r => ((some (Value.long r) : Option Value), h))) (by decide) rfl hf (Nat.le_of_ble_eq_true rfl) ?_
  intro B hl hK E
  subst hK
  subst hl
  show zx_X B zm_Ref_empty _ _ 0 0 0 [(0, zx_rV (zx_BK B) 24 0), (1, .int a1)] [] h
  unfold zs_Ref_empty
  refine zx_aload_n E 0 dd_Ref_empty_0 rfl rfl ?_
  refine zx_getR E 25 0 zd_Ref_sort zg_24 Nat.zero_lt_one (zr_Ref_sort _) zw_1110 dd_Ref_empty_1 ?_
  refine zx_iload_n E 1 dd_Ref_empty_4 rfl rfl ?_
  refine zx_iald E zg_25 Nat.zero_lt_one dd_Ref_empty_5 ?_
  refine zx_if_ne E 13 dd_Ref_empty_6 rfl ?_ ?_
  rotate_left
  · refine zx_ldc2 E (-1 : Int64) zw_1322 dd_Ref_empty_13 ?_
    exact zx_lret E rfl rfl dd_Ref_empty_16
  refine zx_lconst E (0 : Int64) dd_Ref_empty_9 rfl ?_
  refine zx_goto E 16 dd_Ref_empty_10 rfl ?_
  exact zx_lret E rfl rfl dd_Ref_empty_16
set_option maxHeartbeats 4000000 in
set_option maxRecDepth 20000 in
theorem zj_Ref_object_130 {B : zx_B} (E : zx_E B zm_Ref_object) (k72 : (Int32 → Int32 → zx_H → Option (Int32 × zx_H))) (hk72 : ∀ (x1 : Int32) (x2 : Int32) (h : zx_H), zx_X B zm_Ref_object (zx_QM B (fun r => ((some (Value.int r.1) : Option Value), r.2))) (k72 x1 x2 h) 0 0 72 [(0, zx_rV (zx_BK B) 24 0), (1, .int x1), (2, .int x2)] [] h) (x1 : Int32) (x2 : Int32) (s1 : Int32) (s2 : Int64) (h : zx_H) : zx_X B zm_Ref_object (zx_QM B (fun r => ((some (Value.int r.1) : Option Value), r.2))) (zs_Ref_object_J130 k72 x1 x2 s1 s2 h) 0 0 130 [(0, zx_rV (zx_BK B) 24 0), (1, .int x1), (2, .int x2)] [.long s2, .int s1, zx_rV (zx_BK B) 42 0] h := by
  unfold zs_Ref_object_J130
  refine zx_last E zg_42 Nat.zero_lt_one dd_Ref_object_130 ?_
  refine zx_letH (fun h1 => ?_)
  refine zx_iinc E 2 (x2 + (1 : Int32)) (lv1 := [(2, .int (x2 + (1 : Int32))), (0, zx_rV (zx_BK B) 24 0), (1, .int x1)]) dd_Ref_object_131 rfl rfl (by decide) rfl ?_
  refine zx_goto E 72 dd_Ref_object_134 rfl ?_
  refine zx_sub [1, 2, 0] rfl ?_
  exact hk72 x1 (x2 + (1 : Int32)) h1
set_option maxHeartbeats 4000000 in
set_option maxRecDepth 20000 in
theorem zj_Ref_object_129 {B : zx_B} (E : zx_E B zm_Ref_object) (k72 : (Int32 → Int32 → zx_H → Option (Int32 × zx_H))) (hk72 : ∀ (x1 : Int32) (x2 : Int32) (h : zx_H), zx_X B zm_Ref_object (zx_QM B (fun r => ((some (Value.int r.1) : Option Value), r.2))) (k72 x1 x2 h) 0 0 72 [(0, zx_rV (zx_BK B) 24 0), (1, .int x1), (2, .int x2)] [] h) (x1 : Int32) (x2 : Int32) (s1 : Int32) (h : zx_H) : zx_X B zm_Ref_object (zx_QM B (fun r => ((some (Value.int r.1) : Option Value), r.2))) (zs_Ref_object_J129 k72 x1 x2 s1 h) 0 0 129 [(0, zx_rV (zx_BK B) 24 0), (1, .int x1), (2, .int x2)] [.int s1, zx_rV (zx_BK B) 42 0] h := by
  unfold zs_Ref_object_J129
  refine zx_lconst E (0 : Int64) dd_Ref_object_129 rfl ?_
  exact zj_Ref_object_130 E k72 hk72 x1 x2 s1 (0 : Int64) h
set_option maxHeartbeats 4000000 in
set_option maxRecDepth 20000 in
theorem zb_Ref_object_72 {B : zx_B} (E : zx_E B zm_Ref_object)  (k72 : (Int32 → Int32 → zx_H → Option (Int32 × zx_H))) (hk72 : ∀ (x1 : Int32) (x2 : Int32) (h : zx_H), zx_X B zm_Ref_object (zx_QM B (fun r => ((some (Value.int r.1) : Option Value), r.2))) (k72 x1 x2 h) 0 0 72 [(0, zx_rV (zx_BK B) 24 0), (1, .int x1), (2, .int x2)] [] h) (x1 : Int32) (x2 : Int32) (h : zx_H) : zx_X B zm_Ref_object (zx_QM B (fun r => ((some (Value.int r.1) : Option Value), r.2))) (zs_Ref_object_L72_body  k72 x1 x2 h) 0 0 72 [(0, zx_rV (zx_BK B) 24 0), (1, .int x1), (2, .int x2)] [] h := by
  unfold zs_Ref_object_L72_body
  refine zx_iload_n E 2 dd_Ref_object_72 rfl rfl ?_
  refine zx_bipush E (16 : Int32) dd_Ref_object_73 (by decide) ?_
  refine zx_icmp_ge E 137 dd_Ref_object_75 rfl ?_ ?_
  rotate_left
  · refine zx_aload_n E 0 dd_Ref_object_137 rfl rfl ?_
    refine zx_dup E dd_Ref_object_138 rfl ?_
    refine zx_getI E zd_Ref_objects zg_24 Nat.zero_lt_one zw_1130 dd_Ref_object_139 ?_
    refine zx_iconst E (1 : Int32) dd_Ref_object_142 (by decide) ?_
    refine zx_iadd E dd_Ref_object_143 ?_
    refine zx_putI E zd_Ref_objects zp_Ref_objects zg_24 Nat.zero_lt_one rfl rfl zw_1130 dd_Ref_object_144 ?_
    refine zx_letH (fun h2 => ?_)
    refine zx_aload_n E 0 dd_Ref_object_147 rfl rfl ?_
    refine zx_getI E zd_Ref_objects zg_24 Nat.zero_lt_one zw_1130 dd_Ref_object_148 ?_
    refine zx_iconst E (1 : Int32) dd_Ref_object_151 (by decide) ?_
    refine zx_isub E dd_Ref_object_152 ?_
    exact zx_iret E rfl rfl dd_Ref_object_153
  refine zx_aload_n E 0 dd_Ref_object_78 rfl rfl ?_
  refine zx_getR E 42 0 zd_Ref_values zg_24 Nat.zero_lt_one (zr_Ref_values _) zw_1133 dd_Ref_object_79 ?_
  refine zx_bipush E (16 : Int32) dd_Ref_object_82 (by decide) ?_
  refine zx_aload_n E 0 dd_Ref_object_84 rfl rfl ?_
  refine zx_getI E zd_Ref_objects zg_24 Nat.zero_lt_one zw_1130 dd_Ref_object_85 ?_
  refine zx_imul E dd_Ref_object_88 ?_
  refine zx_iload_n E 2 dd_Ref_object_89 rfl rfl ?_
  refine zx_iadd E dd_Ref_object_90 ?_
  refine zx_aload_n E 0 dd_Ref_object_91 rfl rfl ?_
  refine zx_getR E 25 0 zd_Ref_sort zg_24 Nat.zero_lt_one (zr_Ref_sort _) zw_1110 dd_Ref_object_92 ?_
  refine zx_iload_n E 1 dd_Ref_object_95 rfl rfl ?_
  refine zx_iald E zg_25 Nat.zero_lt_one dd_Ref_object_96 ?_
  refine zx_iconst E (4 : Int32) dd_Ref_object_97 (by decide) ?_
  refine zx_icmp_ne E 129 dd_Ref_object_98 rfl ?_ ?_
  rotate_left
  · exact zj_Ref_object_129 E k72 hk72 x1 x2 (((16 : Int32) * (h.1 24 0 23)) + x2) h
  refine zx_iload_n E 2 dd_Ref_object_101 rfl rfl ?_
  refine zx_aload_n E 0 dd_Ref_object_102 rfl rfl ?_
  refine zx_getR E 26 0 zd_Ref_size zg_24 Nat.zero_lt_one (zr_Ref_size _) zw_1111 dd_Ref_object_103 ?_
  refine zx_iload_n E 1 dd_Ref_object_106 rfl rfl ?_
  refine zx_iald E zg_26 Nat.zero_lt_one dd_Ref_object_107 ?_
  refine zx_icmp_ge E 129 dd_Ref_object_108 rfl ?_ ?_
  rotate_left
  · exact zj_Ref_object_129 E k72 hk72 x1 x2 (((16 : Int32) * (h.1 24 0 23)) + x2) h
  refine zx_aload_n E 0 dd_Ref_object_111 rfl rfl ?_
  refine zx_aload_n E 0 dd_Ref_object_112 rfl rfl ?_
  refine zx_getR E 28 0 zd_Ref_propertyTypes zg_24 Nat.zero_lt_one (zr_Ref_propertyTypes _) zw_1113 dd_Ref_object_113 ?_
  refine zx_bipush E (8 : Int32) dd_Ref_object_116 (by decide) ?_
  refine zx_iload_n E 1 dd_Ref_object_118 rfl rfl ?_
  refine zx_imul E dd_Ref_object_119 ?_
  refine zx_iload_n E 2 dd_Ref_object_120 rfl rfl ?_
  refine zx_iadd E dd_Ref_object_121 ?_
  refine zx_iald E zg_28 Nat.zero_lt_one dd_Ref_object_122 ?_
  refine zx_callV_l (T := zx_TRef) E [.int (h.1 28 0 (((8 : Int32) * x1) + x2).toNatClampNeg)] (fun rZ eZ => zt_Ref_empty _ _ (h.1 28 0 (((8 : Int32) * x1) + x2).toNatClampNeg) h _ eZ) zg_24 Nat.zero_lt_one rfl zc_Ref_231 ⟨by decide, by decide⟩ (Nat.zero_le _) (Nat.zero_le _) rfl rfl (Nat.le_of_ble_eq_true rfl) dd_Ref_object_123 (fun r1 => ?_)
  refine zx_goto E 130 dd_Ref_object_126 rfl ?_
  exact zj_Ref_object_130 E k72 hk72 x1 x2 (((16 : Int32) * (h.1 24 0 23)) + x2) r1 h
theorem zj_Ref_object_72 {B : zx_B} (E : zx_E B zm_Ref_object)  : ∀ (x1 : Int32) (x2 : Int32) (h : zx_H), zx_X B zm_Ref_object (zx_QM B (fun r => ((some (Value.int r.1) : Option Value), r.2))) (zs_Ref_object_L72  x1 x2 h) 0 0 72 [(0, zx_rV (zx_BK B) 24 0), (1, .int x1), (2, .int x2)] [] h := by
  unfold zs_Ref_object_L72
  generalize zx_fuel = n
  induction n with
  | zero => intros; exact zx_non
  | succ n ih => intro x1 x2 h; exact zb_Ref_object_72 E  _ ih x1 x2 h
set_option maxHeartbeats 4000000 in
set_option maxRecDepth 20000 in
theorem zj_Ref_object_69 {B : zx_B} (E : zx_E B zm_Ref_object)  (x1 : Int32) (s1 : Int32) (s2 : Int32) (h : zx_H) : zx_X B zm_Ref_object (zx_QM B (fun r => ((some (Value.int r.1) : Option Value), r.2))) (zs_Ref_object_J69  x1 s1 s2 h) 0 0 69 [(0, zx_rV (zx_BK B) 24 0), (1, .int x1)] [.int s2, .int s1, zx_rV (zx_BK B) 41 0] h := by
  unfold zs_Ref_object_J69
  refine zx_iast E zg_41 Nat.zero_lt_one dd_Ref_object_69 ?_
  refine zx_letH (fun h1 => ?_)
  refine zx_iconst E (0 : Int32) dd_Ref_object_70 (by decide) ?_
  refine zx_istore_n E (lv1 := [(2, .int (0 : Int32)), (0, zx_rV (zx_BK B) 24 0), (1, .int x1)]) dd_Ref_object_71 rfl (by decide) rfl ?_
  refine zx_sub [1, 2, 0] rfl ?_
  exact zj_Ref_object_72 E x1 (0 : Int32) h1
set_option maxHeartbeats 4000000 in
set_option maxRecDepth 20000 in
theorem zt_Ref_object (l : Launch) (K : zx_K) (a1 : Int32) (h : zx_H) (r : (Int32 × zx_H)) (hf : zs_Ref_object a1 h = some r) : zx_MR l zm_Ref_object zy_Ref_object K [zx_rV K 24 0, .int a1] h (some (.int r.1)) r.2 := by
  refine zx_ofM (M := zm_Ref_object) (y := zy_Ref_object) (r := r) (as := [zx_rV K 24 0, .int a1]) (ρ := (fun r => ((some (Value.int r.1) : Option Value), r.2))) (by decide) rfl hf (Nat.le_of_ble_eq_true rfl) ?_
  intro B hl hK E
  subst hK
  subst hl
  show zx_X B zm_Ref_object _ _ 0 0 0 [(0, zx_rV (zx_BK B) 24 0), (1, .int a1)] [] h
  unfold zs_Ref_object
  refine zx_aload_n E 0 dd_Ref_object_0 rfl rfl ?_
  refine zx_getI E zd_Ref_objects zg_24 Nat.zero_lt_one zw_1130 dd_Ref_object_1 ?_
  refine zx_sipush E (400 : Int32) dd_Ref_object_4 (by decide) ?_
  refine zx_icmp_ne E 17 dd_Ref_object_7 rfl ?_ ?_
  · refine zx_aload_n E 0 dd_Ref_object_10 rfl rfl ?_
    refine zx_iconst E (1 : Int32) dd_Ref_object_11 (by decide) ?_
    refine zx_putI E zd_Ref_failed zp_Ref_failed zg_24 Nat.zero_lt_one rfl rfl zw_1144 dd_Ref_object_12 ?_
    refine zx_letH (fun h1 => ?_)
    refine zx_iconst E (-1 : Int32) dd_Ref_object_15 (by decide) ?_
    exact zx_iret E rfl rfl dd_Ref_object_16
  refine zx_aload_n E 0 dd_Ref_object_17 rfl rfl ?_
  refine zx_getR E 40 0 zd_Ref_type zg_24 Nat.zero_lt_one (zr_Ref_type _) zw_1131 dd_Ref_object_18 ?_
  refine zx_aload_n E 0 dd_Ref_object_21 rfl rfl ?_
  refine zx_getI E zd_Ref_objects zg_24 Nat.zero_lt_one zw_1130 dd_Ref_object_22 ?_
  refine zx_iload_n E 1 dd_Ref_object_25 rfl rfl ?_
  refine zx_iast E zg_40 Nat.zero_lt_one dd_Ref_object_26 ?_
  refine zx_letH (fun h2 => ?_)
  refine zx_aload_n E 0 dd_Ref_object_27 rfl rfl ?_
  refine zx_getR E 41 0 zd_Ref_count zg_24 Nat.zero_lt_one (zr_Ref_count _) zw_1132 dd_Ref_object_28 ?_
  refine zx_aload_n E 0 dd_Ref_object_31 rfl rfl ?_
  refine zx_getI E zd_Ref_objects zg_24 Nat.zero_lt_one zw_1130 dd_Ref_object_32 ?_
  refine zx_aload_n E 0 dd_Ref_object_35 rfl rfl ?_
  refine zx_getR E 25 0 zd_Ref_sort zg_24 Nat.zero_lt_one (zr_Ref_sort _) zw_1110 dd_Ref_object_36 ?_
  refine zx_iload_n E 1 dd_Ref_object_39 rfl rfl ?_
  refine zx_iald E zg_25 Nat.zero_lt_one dd_Ref_object_40 ?_
  refine zx_iconst E (4 : Int32) dd_Ref_object_41 (by decide) ?_
  refine zx_icmp_ne E 54 dd_Ref_object_42 rfl ?_ ?_
  · refine zx_aload_n E 0 dd_Ref_object_45 rfl rfl ?_
    refine zx_getR E 26 0 zd_Ref_size zg_24 Nat.zero_lt_one (zr_Ref_size _) zw_1111 dd_Ref_object_46 ?_
    refine zx_iload_n E 1 dd_Ref_object_49 rfl rfl ?_
    refine zx_iald E zg_26 Nat.zero_lt_one dd_Ref_object_50 ?_
    refine zx_goto E 69 dd_Ref_object_51 rfl ?_
    exact zj_Ref_object_69 E a1 (h2.1 24 0 23) (h2.1 26 0 a1.toNatClampNeg) h2
  refine zx_aload_n E 0 dd_Ref_object_54 rfl rfl ?_
  refine zx_getR E 25 0 zd_Ref_sort zg_24 Nat.zero_lt_one (zr_Ref_sort _) zw_1110 dd_Ref_object_55 ?_
  refine zx_iload_n E 1 dd_Ref_object_58 rfl rfl ?_
  refine zx_iald E zg_25 Nat.zero_lt_one dd_Ref_object_59 ?_
  refine zx_iconst E (1 : Int32) dd_Ref_object_60 (by decide) ?_
  refine zx_icmp_ne E 68 dd_Ref_object_61 rfl ?_ ?_
  rotate_left
  · refine zx_iconst E (0 : Int32) dd_Ref_object_68 (by decide) ?_
    exact zj_Ref_object_69 E a1 (h2.1 24 0 23) (0 : Int32) h2
  refine zx_iconst E (1 : Int32) dd_Ref_object_64 (by decide) ?_
  refine zx_goto E 69 dd_Ref_object_65 rfl ?_
  exact zj_Ref_object_69 E a1 (h2.1 24 0 23) (1 : Int32) h2
set_option maxHeartbeats 4000000 in
set_option maxRecDepth 20000 in
theorem zj_Ref_make_85 {B : zx_B} (E : zx_E B zm_Ref_make)   (h : zx_H) : zx_X B zm_Ref_make (zx_QM B (fun r => ((some (Value.int r.1) : Option Value), r.2))) (zs_Ref_make_J85  h) 0 0 85 [(0, zx_rV (zx_BK B) 24 0)] [] h := by
  unfold zs_Ref_make_J85
  refine zx_aload_n E 0 dd_Ref_make_85 rfl rfl ?_
  refine zx_iconst E (1 : Int32) dd_Ref_make_86 (by decide) ?_
  refine zx_callV_iw (T := zx_TRef) E [.int (1 : Int32)] (fun rZ eZ => zt_Ref_fails _ _ (1 : Int32) h _ eZ) zg_24 Nat.zero_lt_one rfl zc_Ref_109 ⟨by decide, by decide⟩ (Nat.zero_le _) (Nat.zero_le _) rfl rfl (Nat.le_of_ble_eq_true rfl) dd_Ref_make_87 (fun r1 => ?_)
  exact zx_iret E rfl rfl dd_Ref_make_90
set_option maxHeartbeats 4000000 in
set_option maxRecDepth 20000 in
theorem zb_Ref_make_156 {B : zx_B} (E : zx_E B zm_Ref_make)  (k156 : (Int32 → Int64 → Int32 → Int32 → zx_H → Option (Int32 × zx_H))) (hk156 : ∀ (x1 : Int32) (x2 : Int64) (x5 : Int32) (x6 : Int32) (h : zx_H), zx_X B zm_Ref_make (zx_QM B (fun r => ((some (Value.int r.1) : Option Value), r.2))) (k156 x1 x2 x5 x6 h) 0 0 156 [(0, zx_rV (zx_BK B) 24 0), (1, .int x1), (2, .long x2), (5, .int x5), (6, .int x6)] [] h) (x1 : Int32) (x2 : Int64) (x5 : Int32) (x6 : Int32) (h : zx_H) : zx_X B zm_Ref_make (zx_QM B (fun r => ((some (Value.int r.1) : Option Value), r.2))) (zs_Ref_make_L156_body  k156 x1 x2 x5 x6 h) 0 0 156 [(0, zx_rV (zx_BK B) 24 0), (1, .int x1), (2, .long x2), (5, .int x5), (6, .int x6)] [] h := by
  unfold zs_Ref_make_L156_body
  refine zx_iload E 4 dd_Ref_make_156 rfl ?_
  refine zx_bipush E (8 : Int32) dd_Ref_make_158 (by decide) ?_
  refine zx_icmp_ge E 227 dd_Ref_make_160 rfl ?_ ?_
  rotate_left
  · refine zx_iload E 3 dd_Ref_make_227 rfl ?_
    exact zx_iret E rfl rfl dd_Ref_make_229
  refine zx_iload_n E 1 dd_Ref_make_163 rfl rfl ?_
  refine zx_bipush E (14 : Int32) dd_Ref_make_164 (by decide) ?_
  refine zx_icmp_ne E 227 dd_Ref_make_166 rfl ?_ ?_
  rotate_left
  · refine zx_iload E 3 dd_Ref_make_227 rfl ?_
    exact zx_iret E rfl rfl dd_Ref_make_229
  refine zx_lload_n E 2 dd_Ref_make_169 rfl rfl ?_
  refine zx_bipush E (8 : Int32) dd_Ref_make_170 (by decide) ?_
  refine zx_iload E 4 dd_Ref_make_172 rfl ?_
  refine zx_imul E dd_Ref_make_174 ?_
  refine zx_lshr E dd_Ref_make_175 ?_
  refine zx_ldc2 E (255 : Int64) zw_1240 dd_Ref_make_176 ?_
  refine zx_land E dd_Ref_make_179 ?_
  refine zx_lconst E (0 : Int64) dd_Ref_make_180 rfl ?_
  refine zx_lcmp_eq E 227 dd_Ref_make_181 dd_Ref_make_182 rfl ?_ ?_
  rotate_left
  · refine zx_iload E 3 dd_Ref_make_227 rfl ?_
    exact zx_iret E rfl rfl dd_Ref_make_229
  refine zx_aload_n E 0 dd_Ref_make_185 rfl rfl ?_
  refine zx_getR E 43 0 zd_Ref_characters zg_24 Nat.zero_lt_one (zr_Ref_characters _) zw_1134 dd_Ref_make_186 ?_
  refine zx_bipush E (24 : Int32) dd_Ref_make_189 (by decide) ?_
  refine zx_iload E 3 dd_Ref_make_191 rfl ?_
  refine zx_imul E dd_Ref_make_193 ?_
  refine zx_iload E 4 dd_Ref_make_194 rfl ?_
  refine zx_iadd E dd_Ref_make_196 ?_
  refine zx_lload_n E 2 dd_Ref_make_197 rfl rfl ?_
  refine zx_bipush E (8 : Int32) dd_Ref_make_198 (by decide) ?_
  refine zx_iload E 4 dd_Ref_make_200 rfl ?_
  refine zx_imul E dd_Ref_make_202 ?_
  refine zx_lshr E dd_Ref_make_203 ?_
  refine zx_ldc2 E (255 : Int64) zw_1240 dd_Ref_make_204 ?_
  refine zx_land E dd_Ref_make_207 ?_
  refine zx_l2i E dd_Ref_make_208 ?_
  refine zx_iast E zg_43 Nat.zero_lt_one dd_Ref_make_209 ?_
  refine zx_letH (fun h1 => ?_)
  refine zx_aload_n E 0 dd_Ref_make_210 rfl rfl ?_
  refine zx_getR E 41 0 zd_Ref_count zg_24 Nat.zero_lt_one (zr_Ref_count _) zw_1132 dd_Ref_make_211 ?_
  refine zx_iload E 3 dd_Ref_make_214 rfl ?_
  refine zx_dup2 E dd_Ref_make_216 rfl rfl ?_
  refine zx_iald E zg_41 Nat.zero_lt_one dd_Ref_make_217 ?_
  refine zx_iconst E (1 : Int32) dd_Ref_make_218 (by decide) ?_
  refine zx_iadd E dd_Ref_make_219 ?_
  refine zx_iast E zg_41 Nat.zero_lt_one dd_Ref_make_220 ?_
  refine zx_letH (fun h2 => ?_)
  refine zx_iinc E 4 (x6 + (1 : Int32)) (lv1 := [(6, .int (x6 + (1 : Int32))), (0, zx_rV (zx_BK B) 24 0), (1, .int x1), (2, .long x2), (5, .int x5)]) dd_Ref_make_221 rfl rfl (by decide) rfl ?_
  refine zx_goto E 156 dd_Ref_make_224 rfl ?_
  refine zx_sub [1, 2, 3, 4, 0] rfl ?_
  exact hk156 x1 x2 x5 (x6 + (1 : Int32)) h2
theorem zj_Ref_make_156 {B : zx_B} (E : zx_E B zm_Ref_make)  : ∀ (x1 : Int32) (x2 : Int64) (x5 : Int32) (x6 : Int32) (h : zx_H), zx_X B zm_Ref_make (zx_QM B (fun r => ((some (Value.int r.1) : Option Value), r.2))) (zs_Ref_make_L156  x1 x2 x5 x6 h) 0 0 156 [(0, zx_rV (zx_BK B) 24 0), (1, .int x1), (2, .long x2), (5, .int x5), (6, .int x6)] [] h := by
  unfold zs_Ref_make_L156
  generalize zx_fuel = n
  induction n with
  | zero => intros; exact zx_non
  | succ n ih => intro x1 x2 x5 x6 h; exact zb_Ref_make_156 E  _ ih x1 x2 x5 x6 h
set_option maxHeartbeats 4000000 in
set_option maxRecDepth 20000 in
theorem zj_Ref_make_152 {B : zx_B} (E : zx_E B zm_Ref_make)  (x1 : Int32) (x2 : Int64) (x5 : Int32) (s1 : Int32) (s2 : Int64) (h : zx_H) : zx_X B zm_Ref_make (zx_QM B (fun r => ((some (Value.int r.1) : Option Value), r.2))) (zs_Ref_make_J152  x1 x2 x5 s1 s2 h) 0 0 152 [(0, zx_rV (zx_BK B) 24 0), (1, .int x1), (2, .long x2), (5, .int x5)] [.long s2, .int s1, zx_rV (zx_BK B) 42 0] h := by
  unfold zs_Ref_make_J152
  refine zx_last E zg_42 Nat.zero_lt_one dd_Ref_make_152 ?_
  refine zx_letH (fun h1 => ?_)
  refine zx_iconst E (0 : Int32) dd_Ref_make_153 (by decide) ?_
  refine zx_istore E (lv1 := [(6, .int (0 : Int32)), (0, zx_rV (zx_BK B) 24 0), (1, .int x1), (2, .long x2), (5, .int x5)]) dd_Ref_make_154 (by decide) rfl ?_
  refine zx_sub [1, 2, 3, 4, 0] rfl ?_
  exact zj_Ref_make_156 E x1 x2 x5 (0 : Int32) h1
set_option maxHeartbeats 4000000 in
set_option maxRecDepth 20000 in
theorem zj_Ref_make_91 {B : zx_B} (E : zx_E B zm_Ref_make)  (x1 : Int32) (x2 : Int64) (h : zx_H) : zx_X B zm_Ref_make (zx_QM B (fun r => ((some (Value.int r.1) : Option Value), r.2))) (zs_Ref_make_J91  x1 x2 h) 0 0 91 [(0, zx_rV (zx_BK B) 24 0), (1, .int x1), (2, .long x2)] [] h := by
  unfold zs_Ref_make_J91
  refine zx_aload_n E 0 dd_Ref_make_91 rfl rfl ?_
  refine zx_getI E zd_Ref_objects zg_24 Nat.zero_lt_one zw_1130 dd_Ref_make_92 ?_
  refine zx_sipush E (400 : Int32) dd_Ref_make_95 (by decide) ?_
  refine zx_icmp_ne E 107 dd_Ref_make_98 rfl ?_ ?_
  · refine zx_aload_n E 0 dd_Ref_make_101 rfl rfl ?_
    refine zx_iconst E (2 : Int32) dd_Ref_make_102 (by decide) ?_
    refine zx_callV_iw (T := zx_TRef) E [.int (2 : Int32)] (fun rZ eZ => zt_Ref_fails _ _ (2 : Int32) h _ eZ) zg_24 Nat.zero_lt_one rfl zc_Ref_109 ⟨by decide, by decide⟩ (Nat.zero_le _) (Nat.zero_le _) rfl rfl (Nat.le_of_ble_eq_true rfl) dd_Ref_make_103 (fun r1 => ?_)
    exact zx_iret E rfl rfl dd_Ref_make_106
  refine zx_aload_n E 0 dd_Ref_make_107 rfl rfl ?_
  refine zx_iconst E (0 : Int32) dd_Ref_make_108 (by decide) ?_
  refine zx_putI E zd_Ref_thrown zp_Ref_thrown zg_24 Nat.zero_lt_one rfl rfl zw_1107 dd_Ref_make_109 ?_
  refine zx_letH (fun h2 => ?_)
  refine zx_aload_n E 0 dd_Ref_make_112 rfl rfl ?_
  refine zx_iload_n E 1 dd_Ref_make_113 rfl rfl ?_
  refine zx_callV_iw (T := zx_TRef) E [.int x1] (fun rZ eZ => zt_Ref_object _ _ x1 h2 _ eZ) zg_24 Nat.zero_lt_one rfl zc_Ref_239 ⟨by decide, by decide⟩ (Nat.zero_le _) (Nat.zero_le _) rfl rfl (Nat.le_of_ble_eq_true rfl) dd_Ref_make_114 (fun r3 => ?_)
  refine zx_istore E (lv1 := [(5, .int r3.1), (0, zx_rV (zx_BK B) 24 0), (1, .int x1), (2, .long x2)]) dd_Ref_make_117 (by decide) rfl ?_
  refine zx_aload_n E 1 dd_Ref_make_119 rfl rfl ?_
  refine zx_getR E 42 0 zd_Ref_values zg_24 Nat.zero_lt_one (zr_Ref_values _) zw_1133 dd_Ref_make_120 ?_
  refine zx_bipush E (16 : Int32) dd_Ref_make_123 (by decide) ?_
  refine zx_iload E 0 dd_Ref_make_125 rfl ?_
  refine zx_imul E dd_Ref_make_127 ?_
  refine zx_aload_n E 1 dd_Ref_make_128 rfl rfl ?_
  refine zx_getR E 25 0 zd_Ref_sort zg_24 Nat.zero_lt_one (zr_Ref_sort _) zw_1110 dd_Ref_make_129 ?_
  refine zx_iload_n E 2 dd_Ref_make_132 rfl rfl ?_
  refine zx_iald E zg_25 Nat.zero_lt_one dd_Ref_make_133 ?_
  refine zx_iconst E (1 : Int32) dd_Ref_make_134 (by decide) ?_
  refine zx_icmp_ne E 142 dd_Ref_make_135 rfl ?_ ?_
  · refine zx_lload_n E 3 dd_Ref_make_138 rfl rfl ?_
    refine zx_goto E 152 dd_Ref_make_139 rfl ?_
    refine zx_sub [1, 2, 3, 0] rfl ?_
    exact zj_Ref_make_152 E x1 x2 r3.1 ((16 : Int32) * r3.1) x2 r3.2
  refine zx_aload_n E 1 dd_Ref_make_142 rfl rfl ?_
  refine zx_getR E 42 0 zd_Ref_values zg_24 Nat.zero_lt_one (zr_Ref_values _) zw_1133 dd_Ref_make_143 ?_
  refine zx_bipush E (16 : Int32) dd_Ref_make_146 (by decide) ?_
  refine zx_iload E 0 dd_Ref_make_148 rfl ?_
  refine zx_imul E dd_Ref_make_150 ?_
  refine zx_lald E zg_42 Nat.zero_lt_one dd_Ref_make_151 ?_
  refine zx_sub [1, 2, 3, 0] rfl ?_
  exact zj_Ref_make_152 E x1 x2 r3.1 ((16 : Int32) * r3.1) (r3.2.2 42 0 ((16 : Int32) * r3.1).toNatClampNeg) r3.2
set_option maxHeartbeats 4000000 in
set_option maxRecDepth 20000 in
theorem zj_Ref_make_56 {B : zx_B} (E : zx_E B zm_Ref_make)  (x1 : Int32) (x2 : Int64) (s0 : Bool) (h : zx_H) : zx_X B zm_Ref_make (zx_QM B (fun r => ((some (Value.int r.1) : Option Value), r.2))) (zs_Ref_make_J56  x1 x2 s0 h) 0 0 56 [(0, zx_rV (zx_BK B) 24 0), (1, .int x1), (2, .long x2)] [.int (zx_b s0)] h := by
  unfold zs_Ref_make_J56
  refine zx_istore E (lv1 := [(4, .int (zx_b s0)), (0, zx_rV (zx_BK B) 24 0), (1, .int x1), (2, .long x2)]) dd_Ref_make_56 (by decide) rfl ?_
  refine zx_iload E 0 dd_Ref_make_58 rfl ?_
  refine zx_ifb_eq E (x := s0) 85 dd_Ref_make_60 rfl ?_ ?_
  rotate_left
  · refine zx_sub [1] rfl ?_
    exact zj_Ref_make_85 E h
  refine zx_aload_n E 1 dd_Ref_make_63 rfl rfl ?_
  refine zx_getR E 25 0 zd_Ref_sort zg_24 Nat.zero_lt_one (zr_Ref_sort _) zw_1110 dd_Ref_make_64 ?_
  refine zx_iload_n E 2 dd_Ref_make_67 rfl rfl ?_
  refine zx_iald E zg_25 Nat.zero_lt_one dd_Ref_make_68 ?_
  refine zx_iconst E (1 : Int32) dd_Ref_make_69 (by decide) ?_
  refine zx_icmp_ne E 91 dd_Ref_make_70 rfl ?_ ?_
  rotate_left
  · refine zx_sub [1, 2, 3] rfl ?_
    exact zj_Ref_make_91 E x1 x2 h
  refine zx_aload_n E 1 dd_Ref_make_73 rfl rfl ?_
  refine zx_iload_n E 2 dd_Ref_make_74 rfl rfl ?_
  refine zx_bipush E (7 : Int32) dd_Ref_make_75 (by decide) ?_
  refine zx_isub E dd_Ref_make_77 ?_
  refine zx_lload_n E 3 dd_Ref_make_78 rfl rfl ?_
  refine zx_callV_z (T := zx_TRef) E [.int (x1 - (7 : Int32)), .long x2] (fun rZ eZ => zt_Ref_isValue _ _ (x1 - (7 : Int32)) x2 h _ eZ) zg_24 Nat.zero_lt_one rfl zc_Ref_235 ⟨by decide, by decide⟩ (Nat.zero_le _) (Nat.zero_le _) rfl rfl (Nat.le_of_ble_eq_true rfl) dd_Ref_make_79 (fun r1 => ?_)
  refine zx_ifb_ne E (x := r1) 91 dd_Ref_make_82 rfl ?_ ?_
  · refine zx_sub [1] rfl ?_
    exact zj_Ref_make_85 E h
  refine zx_sub [1, 2, 3] rfl ?_
  exact zj_Ref_make_91 E x1 x2 h
set_option maxHeartbeats 4000000 in
set_option maxRecDepth 20000 in
theorem zj_Ref_make_55 {B : zx_B} (E : zx_E B zm_Ref_make)  (x1 : Int32) (x2 : Int64) (h : zx_H) : zx_X B zm_Ref_make (zx_QM B (fun r => ((some (Value.int r.1) : Option Value), r.2))) (zs_Ref_make_J55  x1 x2 h) 0 0 55 [(0, zx_rV (zx_BK B) 24 0), (1, .int x1), (2, .long x2)] [] h := by
  unfold zs_Ref_make_J55
  refine zx_iconst E (0 : Int32) dd_Ref_make_55 (by decide) ?_
  exact zj_Ref_make_56 E x1 x2 false h
set_option maxHeartbeats 4000000 in
set_option maxRecDepth 20000 in
theorem zj_Ref_make_46 {B : zx_B} (E : zx_E B zm_Ref_make)  (x1 : Int32) (x2 : Int64) (s1 : Int32) (h : zx_H) : zx_X B zm_Ref_make (zx_QM B (fun r => ((some (Value.int r.1) : Option Value), r.2))) (zs_Ref_make_J46  x1 x2 s1 h) 0 0 46 [(0, zx_rV (zx_BK B) 24 0), (1, .int x1), (2, .long x2)] [.int s1, zx_rV (zx_BK B) 25 0] h := by
  unfold zs_Ref_make_J46
  refine zx_iald E zg_25 Nat.zero_lt_one dd_Ref_make_46 ?_
  refine zx_iconst E (3 : Int32) dd_Ref_make_47 (by decide) ?_
  refine zx_icmp_eq E 55 dd_Ref_make_48 rfl ?_ ?_
  rotate_left
  · exact zj_Ref_make_55 E x1 x2 h
  refine zx_iconst E (1 : Int32) dd_Ref_make_51 (by decide) ?_
  refine zx_goto E 56 dd_Ref_make_52 rfl ?_
  exact zj_Ref_make_56 E x1 x2 true h
set_option maxHeartbeats 4000000 in
set_option maxRecDepth 20000 in
theorem zj_Ref_make_25 {B : zx_B} (E : zx_E B zm_Ref_make)  (x1 : Int32) (x2 : Int64) (s1 : Int32) (h : zx_H) : zx_X B zm_Ref_make (zx_QM B (fun r => ((some (Value.int r.1) : Option Value), r.2))) (zs_Ref_make_J25  x1 x2 s1 h) 0 0 25 [(0, zx_rV (zx_BK B) 24 0), (1, .int x1), (2, .long x2)] [.int s1, zx_rV (zx_BK B) 25 0] h := by
  unfold zs_Ref_make_J25
  refine zx_iald E zg_25 Nat.zero_lt_one dd_Ref_make_25 ?_
  refine zx_if_eq E 55 dd_Ref_make_26 rfl ?_ ?_
  rotate_left
  · exact zj_Ref_make_55 E x1 x2 h
  refine zx_aload_n E 0 dd_Ref_make_29 rfl rfl ?_
  refine zx_getR E 25 0 zd_Ref_sort zg_24 Nat.zero_lt_one (zr_Ref_sort _) zw_1110 dd_Ref_make_30 ?_
  refine zx_aload_n E 0 dd_Ref_make_33 rfl rfl ?_
  refine zx_iload_n E 1 dd_Ref_make_34 rfl rfl ?_
  refine zx_callV_z (T := zx_TRef) E [.int x1] (fun rZ eZ => zt_Ref_isType _ _ x1 h _ eZ) zg_24 Nat.zero_lt_one rfl zc_Ref_105 ⟨by decide, by decide⟩ (Nat.zero_le _) (Nat.zero_le _) rfl rfl (Nat.le_of_ble_eq_true rfl) dd_Ref_make_35 (fun r1 => ?_)
  refine zx_ifb_eq E (x := r1) 45 dd_Ref_make_38 rfl ?_ ?_
  rotate_left
  · refine zx_iconst E (0 : Int32) dd_Ref_make_45 (by decide) ?_
    exact zj_Ref_make_46 E x1 x2 (0 : Int32) h
  refine zx_iload_n E 1 dd_Ref_make_41 rfl rfl ?_
  refine zx_goto E 46 dd_Ref_make_42 rfl ?_
  exact zj_Ref_make_46 E x1 x2 x1 h
set_option maxHeartbeats 4000000 in
set_option maxRecDepth 20000 in
theorem zt_Ref_make (l : Launch) (K : zx_K) (a1 : Int32) (a2 : Int64) (h : zx_H) (r : (Int32 × zx_H)) (hf : zs_Ref_make a1 a2 h = some r) : zx_MR l zm_Ref_make zy_Ref_make K [zx_rV K 24 0, .int a1, .long a2] h (some (.int r.1)) r.2 := by
  refine zx_ofM (M := zm_Ref_make) (y := zy_Ref_make) (r := r) (as := [zx_rV K 24 0, .int a1, .long a2]) (ρ := (fun r => ((some (Value.int r.1) : Option Value), r.2))) (by decide) rfl hf (Nat.le_of_ble_eq_true rfl) ?_
  intro B hl hK E
  subst hK
  subst hl
  show zx_X B zm_Ref_make _ _ 0 0 0 [(0, zx_rV (zx_BK B) 24 0), (1, .int a1), (2, .long a2)] [] h
  unfold zs_Ref_make
  refine zx_aload_n E 0 dd_Ref_make_0 rfl rfl ?_
  refine zx_iload_n E 1 dd_Ref_make_1 rfl rfl ?_
  refine zx_callV_z (T := zx_TRef) E [.int a1] (fun rZ eZ => zt_Ref_isType _ _ a1 h _ eZ) zg_24 Nat.zero_lt_one rfl zc_Ref_105 ⟨by decide, by decide⟩ (Nat.zero_le _) (Nat.zero_le _) rfl rfl (Nat.le_of_ble_eq_true rfl) dd_Ref_make_2 (fun r1 => ?_)
  refine zx_ifb_eq E (x := r1) 55 dd_Ref_make_5 rfl ?_ ?_
  rotate_left
  · exact zj_Ref_make_55 E a1 a2 h
  refine zx_aload_n E 0 dd_Ref_make_8 rfl rfl ?_
  refine zx_getR E 25 0 zd_Ref_sort zg_24 Nat.zero_lt_one (zr_Ref_sort _) zw_1110 dd_Ref_make_9 ?_
  refine zx_aload_n E 0 dd_Ref_make_12 rfl rfl ?_
  refine zx_iload_n E 1 dd_Ref_make_13 rfl rfl ?_
  refine zx_callV_z (T := zx_TRef) E [.int a1] (fun rZ eZ => zt_Ref_isType _ _ a1 h _ eZ) zg_24 Nat.zero_lt_one rfl zc_Ref_105 ⟨by decide, by decide⟩ (Nat.zero_le _) (Nat.zero_le _) rfl rfl (Nat.le_of_ble_eq_true rfl) dd_Ref_make_14 (fun r2 => ?_)
  refine zx_ifb_eq E (x := r2) 24 dd_Ref_make_17 rfl ?_ ?_
  rotate_left
  · refine zx_iconst E (0 : Int32) dd_Ref_make_24 (by decide) ?_
    exact zj_Ref_make_25 E a1 a2 (0 : Int32) h
  refine zx_iload_n E 1 dd_Ref_make_20 rfl rfl ?_
  refine zx_goto E 25 dd_Ref_make_21 rfl ?_
  exact zj_Ref_make_25 E a1 a2 a1 h
set_option maxHeartbeats 4000000 in
set_option maxRecDepth 20000 in
theorem zj_Ref_isObject_16 {B : zx_B} (E : zx_E B zm_Ref_isObject) (h : zx_H)   : zx_X B zm_Ref_isObject (zx_QM B (fun r => ((some (Value.int (zx_b r)) : Option Value), h))) (zs_Ref_isObject_J16 h  ) 0 0 16 [] [] h := by
  unfold zs_Ref_isObject_J16
  refine zx_iconst E (0 : Int32) dd_Ref_isObject_16 (by decide) ?_
  exact zx_zret E false rfl rfl rfl dd_Ref_isObject_17
set_option maxHeartbeats 4000000 in
set_option maxRecDepth 20000 in
theorem zt_Ref_isObject (l : Launch) (K : zx_K) (a1 : Int32) (h : zx_H) (r : Bool) (hf : zs_Ref_isObject a1 h = some r) : zx_MR l zm_Ref_isObject zy_Ref_isObject K [zx_rV K 24 0, .int a1] h (some (.int (zx_b r))) h := by
  refine zx_ofM (M := zm_Ref_isObject) (y := zy_Ref_isObject) (r := r) (as := [zx_rV K 24 0, .int a1]) (ρ := (fun r => ((some (Value.int (zx_b r)) : Option Value), h))) (by decide) rfl hf (Nat.le_of_ble_eq_true rfl) ?_
  intro B hl hK E
  subst hK
  subst hl
  show zx_X B zm_Ref_isObject _ _ 0 0 0 [(0, zx_rV (zx_BK B) 24 0), (1, .int a1)] [] h
  unfold zs_Ref_isObject
  refine zx_iload_n E 1 dd_Ref_isObject_0 rfl rfl ?_
  refine zx_if_lt E 16 dd_Ref_isObject_1 rfl ?_ ?_
  rotate_left
  · refine zx_sub [] rfl ?_
    exact zj_Ref_isObject_16 E h
  refine zx_iload_n E 1 dd_Ref_isObject_4 rfl rfl ?_
  refine zx_aload_n E 0 dd_Ref_isObject_5 rfl rfl ?_
  refine zx_getI E zd_Ref_objects zg_24 Nat.zero_lt_one zw_1130 dd_Ref_isObject_6 ?_
  refine zx_icmp_ge E 16 dd_Ref_isObject_9 rfl ?_ ?_
  rotate_left
  · refine zx_sub [] rfl ?_
    exact zj_Ref_isObject_16 E h
  refine zx_iconst E (1 : Int32) dd_Ref_isObject_12 (by decide) ?_
  refine zx_goto E 17 dd_Ref_isObject_13 rfl ?_
  exact zx_zret E true rfl rfl rfl dd_Ref_isObject_17
set_option maxHeartbeats 4000000 in
set_option maxRecDepth 20000 in
theorem zj_Ref_put_163 {B : zx_B} (E : zx_E B zm_Ref_put)  (x1 : Int32) (x3 : Int64) (x5 : Bool) (x6 : Int32) (s1 : Int32) (h : zx_H) : zx_X B zm_Ref_put (zx_QM B (fun r => ((some (Value.int (zx_b r.1)) : Option Value), r.2))) (zs_Ref_put_J163  x1 x3 x5 x6 s1 h) 0 0 163 [(0, zx_rV (zx_BK B) 24 0), (1, .int x1), (3, .long x3), (5, .int (zx_b x5)), (6, .int x6)] [.int s1, zx_rV (zx_BK B) 24 0] h := by
  unfold zs_Ref_put_J163
  refine zx_lload_n E 2 dd_Ref_put_163 rfl rfl ?_
  refine zx_callV_z (T := zx_TRef) E [.int s1, .long x3] (fun rZ eZ => zt_Ref_isValue _ _ s1 x3 h _ eZ) zg_24 Nat.zero_lt_one rfl zc_Ref_235 ⟨by decide, by decide⟩ (Nat.zero_le _) (Nat.zero_le _) rfl rfl (Nat.le_of_ble_eq_true rfl) dd_Ref_put_164 (fun r1 => ?_)
  refine zx_ifb_ne E (x := r1) 172 dd_Ref_put_167 rfl ?_ ?_
  · refine zx_iconst E (0 : Int32) dd_Ref_put_170 (by decide) ?_
    exact zx_zret E false rfl rfl rfl dd_Ref_put_171
  refine zx_aload_n E 0 dd_Ref_put_172 rfl rfl ?_
  refine zx_getR E 42 0 zd_Ref_values zg_24 Nat.zero_lt_one (zr_Ref_values _) zw_1133 dd_Ref_put_173 ?_
  refine zx_bipush E (16 : Int32) dd_Ref_put_176 (by decide) ?_
  refine zx_iload_n E 1 dd_Ref_put_178 rfl rfl ?_
  refine zx_imul E dd_Ref_put_179 ?_
  refine zx_iload E 4 dd_Ref_put_180 rfl ?_
  refine zx_iadd E dd_Ref_put_182 ?_
  refine zx_lload_n E 2 dd_Ref_put_183 rfl rfl ?_
  refine zx_last E zg_42 Nat.zero_lt_one dd_Ref_put_184 ?_
  refine zx_letH (fun h2 => ?_)
  refine zx_aload_n E 0 dd_Ref_put_185 rfl rfl ?_
  refine zx_getR E 41 0 zd_Ref_count zg_24 Nat.zero_lt_one (zr_Ref_count _) zw_1132 dd_Ref_put_186 ?_
  refine zx_iload_n E 1 dd_Ref_put_189 rfl rfl ?_
  refine zx_iload E 3 dd_Ref_put_190 rfl ?_
  refine zx_ifb_eq E (x := x5) 202 dd_Ref_put_192 rfl ?_ ?_
  · refine zx_iload E 4 dd_Ref_put_195 rfl ?_
    refine zx_iconst E (1 : Int32) dd_Ref_put_197 (by decide) ?_
    refine zx_iadd E dd_Ref_put_198 ?_
    refine zx_goto E 208 dd_Ref_put_199 rfl ?_
    refine zx_iast E zg_41 Nat.zero_lt_one dd_Ref_put_208 ?_
    refine zx_letH (fun h3 => ?_)
    refine zx_iconst E (1 : Int32) dd_Ref_put_209 (by decide) ?_
    exact zx_zret E true rfl rfl rfl dd_Ref_put_210
  refine zx_aload_n E 0 dd_Ref_put_202 rfl rfl ?_
  refine zx_getR E 41 0 zd_Ref_count zg_24 Nat.zero_lt_one (zr_Ref_count _) zw_1132 dd_Ref_put_203 ?_
  refine zx_iload_n E 1 dd_Ref_put_206 rfl rfl ?_
  refine zx_iald E zg_41 Nat.zero_lt_one dd_Ref_put_207 ?_
  refine zx_iast E zg_41 Nat.zero_lt_one dd_Ref_put_208 ?_
  refine zx_letH (fun h4 => ?_)
  refine zx_iconst E (1 : Int32) dd_Ref_put_209 (by decide) ?_
  exact zx_zret E true rfl rfl rfl dd_Ref_put_210
set_option maxHeartbeats 4000000 in
set_option maxRecDepth 20000 in
theorem zj_Ref_put_124 {B : zx_B} (E : zx_E B zm_Ref_put)  (x1 : Int32) (x3 : Int64) (x5 : Bool) (s0 : Int32) (h : zx_H) : zx_X B zm_Ref_put (zx_QM B (fun r => ((some (Value.int (zx_b r.1)) : Option Value), r.2))) (zs_Ref_put_J124  x1 x3 x5 s0 h) 0 0 124 [(0, zx_rV (zx_BK B) 24 0), (1, .int x1), (3, .long x3), (5, .int (zx_b x5))] [.int s0] h := by
  unfold zs_Ref_put_J124
  refine zx_istore E (lv1 := [(6, .int s0), (0, zx_rV (zx_BK B) 24 0), (1, .int x1), (3, .long x3), (5, .int (zx_b x5))]) dd_Ref_put_124 (by decide) rfl ?_
  refine zx_aload_n E 1 dd_Ref_put_126 rfl rfl ?_
  refine zx_iload E 4 dd_Ref_put_127 rfl ?_
  refine zx_ifb_eq E (x := x5) 146 dd_Ref_put_129 rfl ?_ ?_
  · refine zx_aload_n E 1 dd_Ref_put_132 rfl rfl ?_
    refine zx_getR E 29 0 zd_Ref_of zg_24 Nat.zero_lt_one (zr_Ref_of _) zw_1114 dd_Ref_put_133 ?_
    refine zx_aload_n E 1 dd_Ref_put_136 rfl rfl ?_
    refine zx_getR E 40 0 zd_Ref_type zg_24 Nat.zero_lt_one (zr_Ref_type _) zw_1131 dd_Ref_put_137 ?_
    refine zx_iload_n E 2 dd_Ref_put_140 rfl rfl ?_
    refine zx_iald E zg_40 Nat.zero_lt_one dd_Ref_put_141 ?_
    refine zx_iald E zg_29 Nat.zero_lt_one dd_Ref_put_142 ?_
    refine zx_goto E 163 dd_Ref_put_143 rfl ?_
    refine zx_sub [1, 2, 3, 4, 0] rfl ?_
    exact zj_Ref_put_163 E x1 x3 x5 s0 (h.1 29 0 (h.1 40 0 x1.toNatClampNeg).toNatClampNeg) h
  refine zx_aload_n E 1 dd_Ref_put_146 rfl rfl ?_
  refine zx_getR E 28 0 zd_Ref_propertyTypes zg_24 Nat.zero_lt_one (zr_Ref_propertyTypes _) zw_1113 dd_Ref_put_147 ?_
  refine zx_bipush E (8 : Int32) dd_Ref_put_150 (by decide) ?_
  refine zx_aload_n E 1 dd_Ref_put_152 rfl rfl ?_
  refine zx_getR E 40 0 zd_Ref_type zg_24 Nat.zero_lt_one (zr_Ref_type _) zw_1131 dd_Ref_put_153 ?_
  refine zx_iload_n E 2 dd_Ref_put_156 rfl rfl ?_
  refine zx_iald E zg_40 Nat.zero_lt_one dd_Ref_put_157 ?_
  refine zx_imul E dd_Ref_put_158 ?_
  refine zx_iload E 0 dd_Ref_put_159 rfl ?_
  refine zx_iadd E dd_Ref_put_161 ?_
  refine zx_iald E zg_28 Nat.zero_lt_one dd_Ref_put_162 ?_
  refine zx_sub [1, 2, 3, 4, 0] rfl ?_
  exact zj_Ref_put_163 E x1 x3 x5 s0 (h.1 28 0 (((8 : Int32) * (h.1 40 0 x1.toNatClampNeg)) + s0).toNatClampNeg) h
set_option maxHeartbeats 4000000 in
set_option maxRecDepth 20000 in
theorem zj_Ref_put_109 {B : zx_B} (E : zx_E B zm_Ref_put)  (x1 : Int32) (x2 : Int32) (x3 : Int64) (x5 : Bool) (h : zx_H) : zx_X B zm_Ref_put (zx_QM B (fun r => ((some (Value.int (zx_b r.1)) : Option Value), r.2))) (zs_Ref_put_J109  x1 x2 x3 x5 h) 0 0 109 [(0, zx_rV (zx_BK B) 24 0), (1, .int x1), (2, .int x2), (3, .long x3), (5, .int (zx_b x5))] [] h := by
  unfold zs_Ref_put_J109
  refine zx_iload E 4 dd_Ref_put_109 rfl ?_
  refine zx_ifb_eq E (x := x5) 123 dd_Ref_put_111 rfl ?_ ?_
  rotate_left
  · refine zx_iload_n E 2 dd_Ref_put_123 rfl rfl ?_
    refine zx_sub [0, 1, 3, 4] rfl ?_
    exact zj_Ref_put_124 E x1 x3 x5 x2 h
  refine zx_aload_n E 0 dd_Ref_put_114 rfl rfl ?_
  refine zx_getR E 41 0 zd_Ref_count zg_24 Nat.zero_lt_one (zr_Ref_count _) zw_1132 dd_Ref_put_115 ?_
  refine zx_iload_n E 1 dd_Ref_put_118 rfl rfl ?_
  refine zx_iald E zg_41 Nat.zero_lt_one dd_Ref_put_119 ?_
  refine zx_goto E 124 dd_Ref_put_120 rfl ?_
  refine zx_sub [0, 1, 3, 4] rfl ?_
  exact zj_Ref_put_124 E x1 x3 x5 (h.1 41 0 x1.toNatClampNeg) h
set_option maxHeartbeats 4000000 in
set_option maxRecDepth 20000 in
theorem zj_Ref_put_91 {B : zx_B} (E : zx_E B zm_Ref_put)  (x1 : Int32) (x2 : Int32) (x3 : Int64) (x5 : Bool) (h : zx_H) : zx_X B zm_Ref_put (zx_QM B (fun r => ((some (Value.int (zx_b r.1)) : Option Value), r.2))) (zs_Ref_put_J91  x1 x2 x3 x5 h) 0 0 91 [(0, zx_rV (zx_BK B) 24 0), (1, .int x1), (2, .int x2), (3, .long x3), (5, .int (zx_b x5))] [] h := by
  unfold zs_Ref_put_J91
  refine zx_iload E 4 dd_Ref_put_91 rfl ?_
  refine zx_ifb_eq E (x := x5) 109 dd_Ref_put_93 rfl ?_ ?_
  rotate_left
  · exact zj_Ref_put_109 E x1 x2 x3 x5 h
  refine zx_aload_n E 0 dd_Ref_put_96 rfl rfl ?_
  refine zx_getR E 41 0 zd_Ref_count zg_24 Nat.zero_lt_one (zr_Ref_count _) zw_1132 dd_Ref_put_97 ?_
  refine zx_iload_n E 1 dd_Ref_put_100 rfl rfl ?_
  refine zx_iald E zg_41 Nat.zero_lt_one dd_Ref_put_101 ?_
  refine zx_bipush E (16 : Int32) dd_Ref_put_102 (by decide) ?_
  refine zx_icmp_ne E 109 dd_Ref_put_104 rfl ?_ ?_
  rotate_left
  · exact zj_Ref_put_109 E x1 x2 x3 x5 h
  refine zx_iconst E (0 : Int32) dd_Ref_put_107 (by decide) ?_
  exact zx_zret E false rfl rfl rfl dd_Ref_put_108
set_option maxHeartbeats 4000000 in
set_option maxRecDepth 20000 in
theorem zj_Ref_put_65 {B : zx_B} (E : zx_E B zm_Ref_put)  (x1 : Int32) (x2 : Int32) (x3 : Int64) (s0 : Bool) (h : zx_H) : zx_X B zm_Ref_put (zx_QM B (fun r => ((some (Value.int (zx_b r.1)) : Option Value), r.2))) (zs_Ref_put_J65  x1 x2 x3 s0 h) 0 0 65 [(0, zx_rV (zx_BK B) 24 0), (1, .int x1), (2, .int x2), (3, .long x3)] [.int (zx_b s0)] h := by
  unfold zs_Ref_put_J65
  refine zx_istore E (lv1 := [(5, .int (zx_b s0)), (0, zx_rV (zx_BK B) 24 0), (1, .int x1), (2, .int x2), (3, .long x3)]) dd_Ref_put_65 (by decide) rfl ?_
  refine zx_iload E 0 dd_Ref_put_67 rfl ?_
  refine zx_ifb_ne E (x := s0) 91 dd_Ref_put_69 rfl ?_ ?_
  rotate_left
  · refine zx_sub [1, 2, 3, 4, 0] rfl ?_
    exact zj_Ref_put_91 E x1 x2 x3 s0 h
  refine zx_iload_n E 3 dd_Ref_put_72 rfl rfl ?_
  refine zx_if_lt E 107 dd_Ref_put_73 rfl ?_ ?_
  rotate_left
  · refine zx_iconst E (0 : Int32) dd_Ref_put_107 (by decide) ?_
    exact zx_zret E false rfl rfl rfl dd_Ref_put_108
  refine zx_iload_n E 3 dd_Ref_put_76 rfl rfl ?_
  refine zx_aload_n E 1 dd_Ref_put_77 rfl rfl ?_
  refine zx_getR E 26 0 zd_Ref_size zg_24 Nat.zero_lt_one (zr_Ref_size _) zw_1111 dd_Ref_put_78 ?_
  refine zx_aload_n E 1 dd_Ref_put_81 rfl rfl ?_
  refine zx_getR E 40 0 zd_Ref_type zg_24 Nat.zero_lt_one (zr_Ref_type _) zw_1131 dd_Ref_put_82 ?_
  refine zx_iload_n E 2 dd_Ref_put_85 rfl rfl ?_
  refine zx_iald E zg_40 Nat.zero_lt_one dd_Ref_put_86 ?_
  refine zx_iald E zg_26 Nat.zero_lt_one dd_Ref_put_87 ?_
  refine zx_icmp_ge E 107 dd_Ref_put_88 rfl ?_ ?_
  · refine zx_sub [1, 2, 3, 4, 0] rfl ?_
    exact zj_Ref_put_91 E x1 x2 x3 s0 h
  refine zx_iconst E (0 : Int32) dd_Ref_put_107 (by decide) ?_
  exact zx_zret E false rfl rfl rfl dd_Ref_put_108
set_option maxHeartbeats 4000000 in
set_option maxRecDepth 20000 in
theorem zj_Ref_put_45 {B : zx_B} (E : zx_E B zm_Ref_put)  (x1 : Int32) (x2 : Int32) (x3 : Int64) (h : zx_H) : zx_X B zm_Ref_put (zx_QM B (fun r => ((some (Value.int (zx_b r.1)) : Option Value), r.2))) (zs_Ref_put_J45  x1 x2 x3 h) 0 0 45 [(0, zx_rV (zx_BK B) 24 0), (1, .int x1), (2, .int x2), (3, .long x3)] [] h := by
  unfold zs_Ref_put_J45
  refine zx_aload_n E 0 dd_Ref_put_45 rfl rfl ?_
  refine zx_getR E 25 0 zd_Ref_sort zg_24 Nat.zero_lt_one (zr_Ref_sort _) zw_1110 dd_Ref_put_46 ?_
  refine zx_aload_n E 0 dd_Ref_put_49 rfl rfl ?_
  refine zx_getR E 40 0 zd_Ref_type zg_24 Nat.zero_lt_one (zr_Ref_type _) zw_1131 dd_Ref_put_50 ?_
  refine zx_iload_n E 1 dd_Ref_put_53 rfl rfl ?_
  refine zx_iald E zg_40 Nat.zero_lt_one dd_Ref_put_54 ?_
  refine zx_iald E zg_25 Nat.zero_lt_one dd_Ref_put_55 ?_
  refine zx_iconst E (5 : Int32) dd_Ref_put_56 (by decide) ?_
  refine zx_icmp_ne E 64 dd_Ref_put_57 rfl ?_ ?_
  rotate_left
  · refine zx_iconst E (0 : Int32) dd_Ref_put_64 (by decide) ?_
    exact zj_Ref_put_65 E x1 x2 x3 false h
  refine zx_iconst E (1 : Int32) dd_Ref_put_60 (by decide) ?_
  refine zx_goto E 65 dd_Ref_put_61 rfl ?_
  exact zj_Ref_put_65 E x1 x2 x3 true h
set_option maxHeartbeats 4000000 in
set_option maxRecDepth 20000 in
theorem zt_Ref_put (l : Launch) (K : zx_K) (a1 : Int32) (a2 : Int32) (a3 : Int64) (h : zx_H) (r : (Bool × zx_H)) (hf : zs_Ref_put a1 a2 a3 h = some r) : zx_MR l zm_Ref_put zy_Ref_put K [zx_rV K 24 0, .int a1, .int a2, .long a3] h (some (.int (zx_b r.1))) r.2 := by
  refine zx_ofM (M := zm_Ref_put) (y := zy_Ref_put) (r := r) (as := [zx_rV K 24 0, .int a1, .int a2, .long a3]) (ρ := (fun r => ((some (Value.int (zx_b r.1)) : Option Value), r.2))) (by decide) rfl hf (Nat.le_of_ble_eq_true rfl) ?_
  intro B hl hK E
  subst hK
  subst hl
  show zx_X B zm_Ref_put _ _ 0 0 0 [(0, zx_rV (zx_BK B) 24 0), (1, .int a1), (2, .int a2), (3, .long a3)] [] h
  unfold zs_Ref_put
  refine zx_aload_n E 0 dd_Ref_put_0 rfl rfl ?_
  refine zx_iconst E (0 : Int32) dd_Ref_put_1 (by decide) ?_
  refine zx_putI E zd_Ref_thrown zp_Ref_thrown zg_24 Nat.zero_lt_one rfl rfl zw_1107 dd_Ref_put_2 ?_
  refine zx_letH (fun h1 => ?_)
  refine zx_aload_n E 0 dd_Ref_put_5 rfl rfl ?_
  refine zx_iload_n E 1 dd_Ref_put_6 rfl rfl ?_
  refine zx_callV_z (T := zx_TRef) E [.int a1] (fun rZ eZ => zt_Ref_isObject _ _ a1 h1 _ eZ) zg_24 Nat.zero_lt_one rfl zc_Ref_242 ⟨by decide, by decide⟩ (Nat.zero_le _) (Nat.zero_le _) rfl rfl (Nat.le_of_ble_eq_true rfl) dd_Ref_put_7 (fun r2 => ?_)
  refine zx_ifb_eq E (x := r2) 43 dd_Ref_put_10 rfl ?_ ?_
  rotate_left
  · refine zx_iconst E (0 : Int32) dd_Ref_put_43 (by decide) ?_
    exact zx_zret E false rfl rfl rfl dd_Ref_put_44
  refine zx_aload_n E 0 dd_Ref_put_13 rfl rfl ?_
  refine zx_getR E 25 0 zd_Ref_sort zg_24 Nat.zero_lt_one (zr_Ref_sort _) zw_1110 dd_Ref_put_14 ?_
  refine zx_aload_n E 0 dd_Ref_put_17 rfl rfl ?_
  refine zx_getR E 40 0 zd_Ref_type zg_24 Nat.zero_lt_one (zr_Ref_type _) zw_1131 dd_Ref_put_18 ?_
  refine zx_iload_n E 1 dd_Ref_put_21 rfl rfl ?_
  refine zx_iald E zg_40 Nat.zero_lt_one dd_Ref_put_22 ?_
  refine zx_iald E zg_25 Nat.zero_lt_one dd_Ref_put_23 ?_
  refine zx_iconst E (4 : Int32) dd_Ref_put_24 (by decide) ?_
  refine zx_icmp_eq E 45 dd_Ref_put_25 rfl ?_ ?_
  rotate_left
  · exact zj_Ref_put_45 E a1 a2 a3 h1
  refine zx_aload_n E 0 dd_Ref_put_28 rfl rfl ?_
  refine zx_getR E 25 0 zd_Ref_sort zg_24 Nat.zero_lt_one (zr_Ref_sort _) zw_1110 dd_Ref_put_29 ?_
  refine zx_aload_n E 0 dd_Ref_put_32 rfl rfl ?_
  refine zx_getR E 40 0 zd_Ref_type zg_24 Nat.zero_lt_one (zr_Ref_type _) zw_1131 dd_Ref_put_33 ?_
  refine zx_iload_n E 1 dd_Ref_put_36 rfl rfl ?_
  refine zx_iald E zg_40 Nat.zero_lt_one dd_Ref_put_37 ?_
  refine zx_iald E zg_25 Nat.zero_lt_one dd_Ref_put_38 ?_
  refine zx_iconst E (5 : Int32) dd_Ref_put_39 (by decide) ?_
  refine zx_icmp_eq E 45 dd_Ref_put_40 rfl ?_ ?_
  rotate_left
  · exact zj_Ref_put_45 E a1 a2 a3 h1
  refine zx_iconst E (0 : Int32) dd_Ref_put_43 (by decide) ?_
  exact zx_zret E false rfl rfl rfl dd_Ref_put_44
set_option maxHeartbeats 4000000 in
set_option maxRecDepth 20000 in
theorem zj_Ref_doubled_98 {B : zx_B} (E : zx_E B zm_Ref_doubled) (h : zx_H)  (x2 : Bool) (x5 : Int32) (s0 : Int64) (s1 : Int64) : zx_X B zm_Ref_doubled (zx_QM B (fun r => ((some (Value.long r) : Option Value), h))) (zs_Ref_doubled_J98 h  x2 x5 s0 s1) 0 0 98 [(2, .int (zx_b x2)), (5, .int x5)] [.long s1, .long s0] h := by
  unfold zs_Ref_doubled_J98
  refine zx_ladd E dd_Ref_doubled_98 ?_
  refine zx_letl (fun y1 => ?_)
  refine zx_lstore E (lv1 := [(6, .long y1), (2, .int (zx_b x2)), (5, .int x5)]) dd_Ref_doubled_99 (by decide) rfl ?_
  refine zx_iload E 2 dd_Ref_doubled_101 rfl ?_
  refine zx_sipush E (1023 : Int32) dd_Ref_doubled_103 (by decide) ?_
  refine zx_iadd E dd_Ref_doubled_106 ?_
  refine zx_i2l E dd_Ref_doubled_107 ?_
  refine zx_bipush E (52 : Int32) dd_Ref_doubled_108 (by decide) ?_
  refine zx_lshl E dd_Ref_doubled_110 ?_
  refine zx_lload E 0 dd_Ref_doubled_111 rfl ?_
  refine zx_ldc2 E (4503599627370496 : Int64) zw_1444 dd_Ref_doubled_113 ?_
  refine zx_lsub E dd_Ref_doubled_116 ?_
  refine zx_ladd E dd_Ref_doubled_117 ?_
  refine zx_letl (fun y2 => ?_)
  refine zx_lstore E (lv1 := [(10, .long y2), (6, .long y1), (2, .int (zx_b x2)), (5, .int x5)]) dd_Ref_doubled_118 (by decide) rfl ?_
  refine zx_iload_n E 2 dd_Ref_doubled_120 rfl rfl ?_
  refine zx_ifb_eq E (x := x2) 133 dd_Ref_doubled_121 rfl ?_ ?_
  rotate_left
  · refine zx_lload E 0 dd_Ref_doubled_133 rfl ?_
    exact zx_lret E rfl rfl dd_Ref_doubled_135
  refine zx_lload E 0 dd_Ref_doubled_124 rfl ?_
  refine zx_ldc2 E (-9223372036854775808 : Int64) zw_1445 dd_Ref_doubled_126 ?_
  refine zx_lor E dd_Ref_doubled_129 ?_
  refine zx_goto E 135 dd_Ref_doubled_130 rfl ?_
  exact zx_lret E rfl rfl dd_Ref_doubled_135
set_option maxHeartbeats 4000000 in
set_option maxRecDepth 20000 in
theorem zj_Ref_doubled_93 {B : zx_B} (E : zx_E B zm_Ref_doubled) (h : zx_H)  (x2 : Bool) (x5 : Int32) (s0 : Int64) : zx_X B zm_Ref_doubled (zx_QM B (fun r => ((some (Value.long r) : Option Value), h))) (zs_Ref_doubled_J93 h  x2 x5 s0) 0 0 93 [(2, .int (zx_b x2)), (5, .int x5)] [.long s0] h := by
  unfold zs_Ref_doubled_J93
  refine zx_lconst E (1 : Int64) dd_Ref_doubled_93 rfl ?_
  refine zx_goto E 98 dd_Ref_doubled_94 rfl ?_
  exact zj_Ref_doubled_98 E h x2 x5 s0 (1 : Int64)
set_option maxHeartbeats 4000000 in
set_option maxRecDepth 20000 in
theorem zj_Ref_doubled_97 {B : zx_B} (E : zx_E B zm_Ref_doubled) (h : zx_H)  (x2 : Bool) (x5 : Int32) (s0 : Int64) : zx_X B zm_Ref_doubled (zx_QM B (fun r => ((some (Value.long r) : Option Value), h))) (zs_Ref_doubled_J97 h  x2 x5 s0) 0 0 97 [(2, .int (zx_b x2)), (5, .int x5)] [.long s0] h := by
  unfold zs_Ref_doubled_J97
  refine zx_lconst E (0 : Int64) dd_Ref_doubled_97 rfl ?_
  exact zj_Ref_doubled_98 E h x2 x5 s0 (0 : Int64)
set_option maxHeartbeats 4000000 in
set_option maxRecDepth 20000 in
theorem zb_Ref_doubled_35 {B : zx_B} (E : zx_E B zm_Ref_doubled) (h : zx_H)  (k35 : (Bool → Int64 → Int32 → Option Int64)) (hk35 : ∀ (x2 : Bool) (x3 : Int64) (x5 : Int32), zx_X B zm_Ref_doubled (zx_QM B (fun r => ((some (Value.long r) : Option Value), h))) (k35 x2 x3 x5) 0 0 35 [(2, .int (zx_b x2)), (3, .long x3), (5, .int x5)] [] h) (x2 : Bool) (x3 : Int64) (x5 : Int32) : zx_X B zm_Ref_doubled (zx_QM B (fun r => ((some (Value.long r) : Option Value), h))) (zs_Ref_doubled_L35_body h  k35 x2 x3 x5) 0 0 35 [(2, .int (zx_b x2)), (3, .long x3), (5, .int x5)] [] h := by
  unfold zs_Ref_doubled_L35_body
  refine zx_lload_n E 1 dd_Ref_doubled_35 rfl rfl ?_
  refine zx_lconst E (0 : Int64) dd_Ref_doubled_36 rfl ?_
  refine zx_lcmp_lt E 51 dd_Ref_doubled_37 dd_Ref_doubled_38 rfl ?_ ?_
  · refine zx_lload_n E 1 dd_Ref_doubled_41 rfl rfl ?_
    refine zx_iconst E (1 : Int32) dd_Ref_doubled_42 (by decide) ?_
    refine zx_lshl E dd_Ref_doubled_43 ?_
    refine zx_letl (fun y1 => ?_)
    refine zx_lstore_n E (lv1 := [(3, .long y1), (2, .int (zx_b x2)), (5, .int x5)]) dd_Ref_doubled_44 rfl (by decide) rfl ?_
    refine zx_iinc E 2 (x5 + (-1 : Int32)) (lv1 := [(5, .int (x5 + (-1 : Int32))), (3, .long y1), (2, .int (zx_b x2))]) dd_Ref_doubled_45 rfl rfl (by decide) rfl ?_
    refine zx_goto E 35 dd_Ref_doubled_48 rfl ?_
    refine zx_sub [2, 1, 0] rfl ?_
    exact hk35 x2 y1 (x5 + (-1 : Int32))
  refine zx_lload_n E 1 dd_Ref_doubled_51 rfl rfl ?_
  refine zx_bipush E (11 : Int32) dd_Ref_doubled_52 (by decide) ?_
  refine zx_lushr E dd_Ref_doubled_54 ?_
  refine zx_letl (fun y3 => ?_)
  refine zx_lstore E (lv1 := [(6, .long y3), (2, .int (zx_b x2)), (3, .long x3), (5, .int x5)]) dd_Ref_doubled_55 (by decide) rfl ?_
  refine zx_lload_n E 2 dd_Ref_doubled_57 rfl rfl ?_
  refine zx_ldc2 E (2047 : Int64) zw_1442 dd_Ref_doubled_58 ?_
  refine zx_land E dd_Ref_doubled_61 ?_
  refine zx_letl (fun y4 => ?_)
  refine zx_lstore E (lv1 := [(8, .long y4), (6, .long y3), (2, .int (zx_b x2)), (3, .long x3), (5, .int x5)]) dd_Ref_doubled_62 (by decide) rfl ?_
  refine zx_lload E 1 dd_Ref_doubled_64 rfl ?_
  refine zx_lload E 0 dd_Ref_doubled_66 rfl ?_
  refine zx_ldc2 E (1024 : Int64) zw_1443 dd_Ref_doubled_68 ?_
  refine zx_lcmp_gt E 93 dd_Ref_doubled_71 dd_Ref_doubled_72 rfl ?_ ?_
  rotate_left
  · refine zx_sub [2, 4] rfl ?_
    exact zj_Ref_doubled_93 E h x2 x5 y3
  refine zx_lload E 0 dd_Ref_doubled_75 rfl ?_
  refine zx_ldc2 E (1024 : Int64) zw_1443 dd_Ref_doubled_77 ?_
  refine zx_lcmp_ne E 97 dd_Ref_doubled_80 dd_Ref_doubled_81 rfl ?_ ?_
  rotate_left
  · refine zx_sub [2, 4] rfl ?_
    exact zj_Ref_doubled_97 E h x2 x5 y3
  refine zx_lload E 1 dd_Ref_doubled_84 rfl ?_
  refine zx_lconst E (1 : Int64) dd_Ref_doubled_86 rfl ?_
  refine zx_land E dd_Ref_doubled_87 ?_
  refine zx_lconst E (1 : Int64) dd_Ref_doubled_88 rfl ?_
  refine zx_lcmp_ne E 97 dd_Ref_doubled_89 dd_Ref_doubled_90 rfl ?_ ?_
  · refine zx_sub [2, 4] rfl ?_
    exact zj_Ref_doubled_93 E h x2 x5 y3
  refine zx_sub [2, 4] rfl ?_
  exact zj_Ref_doubled_97 E h x2 x5 y3
theorem zj_Ref_doubled_35 {B : zx_B} (E : zx_E B zm_Ref_doubled) (h : zx_H)  : ∀ (x2 : Bool) (x3 : Int64) (x5 : Int32), zx_X B zm_Ref_doubled (zx_QM B (fun r => ((some (Value.long r) : Option Value), h))) (zs_Ref_doubled_L35 h  x2 x3 x5) 0 0 35 [(2, .int (zx_b x2)), (3, .long x3), (5, .int x5)] [] h := by
  unfold zs_Ref_doubled_L35
  generalize zx_fuel = n
  induction n with
  | zero => intros; exact zx_non
  | succ n ih => intro x2 x3 x5; exact zb_Ref_doubled_35 E h  _ ih x2 x3 x5
set_option maxHeartbeats 4000000 in
set_option maxRecDepth 20000 in
theorem zj_Ref_doubled_30 {B : zx_B} (E : zx_E B zm_Ref_doubled) (h : zx_H)  (x2 : Bool) (s0 : Int64) : zx_X B zm_Ref_doubled (zx_QM B (fun r => ((some (Value.long r) : Option Value), h))) (zs_Ref_doubled_J30 h  x2 s0) 0 0 30 [(2, .int (zx_b x2))] [.long s0] h := by
  unfold zs_Ref_doubled_J30
  refine zx_lstore_n E (lv1 := [(3, .long s0), (2, .int (zx_b x2))]) dd_Ref_doubled_30 rfl (by decide) rfl ?_
  refine zx_bipush E (63 : Int32) dd_Ref_doubled_31 (by decide) ?_
  refine zx_istore E (lv1 := [(5, .int (63 : Int32)), (3, .long s0), (2, .int (zx_b x2))]) dd_Ref_doubled_33 (by decide) rfl ?_
  refine zx_sub [2, 1, 0] rfl ?_
  exact zj_Ref_doubled_35 E h x2 s0 (63 : Int32)
set_option maxHeartbeats 4000000 in
set_option maxRecDepth 20000 in
theorem zj_Ref_doubled_19 {B : zx_B} (E : zx_E B zm_Ref_doubled) (h : zx_H)  (x0 : Int64) (s0 : Bool) : zx_X B zm_Ref_doubled (zx_QM B (fun r => ((some (Value.long r) : Option Value), h))) (zs_Ref_doubled_J19 h  x0 s0) 0 0 19 [(0, .long x0)] [.int (zx_b s0)] h := by
  unfold zs_Ref_doubled_J19
  refine zx_istore_n E (lv1 := [(2, .int (zx_b s0)), (0, .long x0)]) dd_Ref_doubled_19 rfl (by decide) rfl ?_
  refine zx_iload_n E 0 dd_Ref_doubled_20 rfl rfl ?_
  refine zx_ifb_eq E (x := s0) 29 dd_Ref_doubled_21 rfl ?_ ?_
  rotate_left
  · refine zx_lload_n E 1 dd_Ref_doubled_29 rfl rfl ?_
    refine zx_sub [0] rfl ?_
    exact zj_Ref_doubled_30 E h s0 x0
  refine zx_lload_n E 1 dd_Ref_doubled_24 rfl rfl ?_
  refine zx_lneg E dd_Ref_doubled_25 ?_
  refine zx_goto E 30 dd_Ref_doubled_26 rfl ?_
  refine zx_sub [0] rfl ?_
  exact zj_Ref_doubled_30 E h s0 (-x0)
set_option maxHeartbeats 4000000 in
set_option maxRecDepth 20000 in
theorem zt_Ref_doubled (l : Launch) (K : zx_K) (a0 : Int64) (h : zx_H) (r : Int64) (hf : zs_Ref_doubled a0 h = some r) : zx_MR l zm_Ref_doubled zy_Ref_doubled K [.long a0] h (some (.long r)) h := by
  refine zx_ofM (M := zm_Ref_doubled) (y := zy_Ref_doubled) (r := r) (as := [.long a0]) (ρ := (fun r => ((some (Value.long r) : Option Value), h))) (by decide) rfl hf (Nat.le_of_ble_eq_true rfl) ?_
  intro B hl hK E
  subst hK
  subst hl
  show zx_X B zm_Ref_doubled _ _ 0 0 0 [(0, .long a0)] [] h
  unfold zs_Ref_doubled
  refine zx_lload_n E 0 dd_Ref_doubled_0 rfl rfl ?_
  refine zx_lconst E (0 : Int64) dd_Ref_doubled_1 rfl ?_
  refine zx_lcmp_ne E 8 dd_Ref_doubled_2 dd_Ref_doubled_3 rfl ?_ ?_
  · refine zx_lconst E (0 : Int64) dd_Ref_doubled_6 rfl ?_
    exact zx_lret E rfl rfl dd_Ref_doubled_7
  refine zx_lload_n E 0 dd_Ref_doubled_8 rfl rfl ?_
  refine zx_lconst E (0 : Int64) dd_Ref_doubled_9 rfl ?_
  refine zx_lcmp_ge E 18 dd_Ref_doubled_10 dd_Ref_doubled_11 rfl ?_ ?_
  rotate_left
  · refine zx_iconst E (0 : Int32) dd_Ref_doubled_18 (by decide) ?_
    exact zj_Ref_doubled_19 E h a0 false
  refine zx_iconst E (1 : Int32) dd_Ref_doubled_14 (by decide) ?_
  refine zx_goto E 19 dd_Ref_doubled_15 rfl ?_
  exact zj_Ref_doubled_19 E h a0 true
set_option maxHeartbeats 4000000 in
set_option maxRecDepth 20000 in
theorem zj_Ref_whole_106 {B : zx_B} (E : zx_E B zm_Ref_whole) (h : zx_H)  (x2 : Int64) (x4 : Int64) (s0 : Int64) : zx_X B zm_Ref_whole (zx_QM B (fun r => ((some (Value.long r) : Option Value), h))) (zs_Ref_whole_J106 h  x2 x4 s0) 0 0 106 [(2, .long x2), (4, .long x4)] [.long s0] h := by
  unfold zs_Ref_whole_J106
  refine zx_lstore E (lv1 := [(10, .long s0), (2, .long x2), (4, .long x4)]) dd_Ref_whole_106 (by decide) rfl ?_
  refine zx_lload E 0 dd_Ref_whole_108 rfl ?_
  refine zx_lload_n E 1 dd_Ref_whole_110 rfl rfl ?_
  refine zx_lcmp_ge E 119 dd_Ref_whole_111 dd_Ref_whole_112 rfl ?_ ?_
  · refine zx_lload_n E 1 dd_Ref_whole_115 rfl rfl ?_
    refine zx_goto E 134 dd_Ref_whole_116 rfl ?_
    exact zx_lret E rfl rfl dd_Ref_whole_134
  refine zx_lload E 0 dd_Ref_whole_119 rfl ?_
  refine zx_lload E 2 dd_Ref_whole_121 rfl ?_
  refine zx_lcmp_le E 132 dd_Ref_whole_123 dd_Ref_whole_124 rfl ?_ ?_
  rotate_left
  · refine zx_lload E 0 dd_Ref_whole_132 rfl ?_
    exact zx_lret E rfl rfl dd_Ref_whole_134
  refine zx_lload E 2 dd_Ref_whole_127 rfl ?_
  refine zx_goto E 134 dd_Ref_whole_129 rfl ?_
  exact zx_lret E rfl rfl dd_Ref_whole_134
set_option maxHeartbeats 4000000 in
set_option maxRecDepth 20000 in
theorem zj_Ref_whole_91 {B : zx_B} (E : zx_E B zm_Ref_whole) (h : zx_H)  (x2 : Int64) (x4 : Int64) (x6 : Bool) (s0 : Int64) : zx_X B zm_Ref_whole (zx_QM B (fun r => ((some (Value.long r) : Option Value), h))) (zs_Ref_whole_J91 h  x2 x4 x6 s0) 0 0 91 [(2, .long x2), (4, .long x4), (6, .int (zx_b x6))] [.long s0] h := by
  unfold zs_Ref_whole_J91
  refine zx_lstore E (lv1 := [(10, .long s0), (2, .long x2), (4, .long x4), (6, .int (zx_b x6))]) dd_Ref_whole_91 (by decide) rfl ?_
  refine zx_iload E 3 dd_Ref_whole_93 rfl ?_
  refine zx_ifb_eq E (x := x6) 104 dd_Ref_whole_95 rfl ?_ ?_
  rotate_left
  · refine zx_lload E 0 dd_Ref_whole_104 rfl ?_
    refine zx_sub [1, 2] rfl ?_
    exact zj_Ref_whole_106 E h x2 x4 s0
  refine zx_lload E 0 dd_Ref_whole_98 rfl ?_
  refine zx_lneg E dd_Ref_whole_100 ?_
  refine zx_goto E 106 dd_Ref_whole_101 rfl ?_
  refine zx_sub [1, 2] rfl ?_
  exact zj_Ref_whole_106 E h x2 x4 (-s0)
set_option maxHeartbeats 4000000 in
set_option maxRecDepth 20000 in
theorem zj_Ref_whole_11 {B : zx_B} (E : zx_E B zm_Ref_whole) (h : zx_H)  (x0 : Int64) (x2 : Int64) (x4 : Int64) (s0 : Bool) : zx_X B zm_Ref_whole (zx_QM B (fun r => ((some (Value.long r) : Option Value), h))) (zs_Ref_whole_J11 h  x0 x2 x4 s0) 0 0 11 [(0, .long x0), (2, .long x2), (4, .long x4)] [.int (zx_b s0)] h := by
  unfold zs_Ref_whole_J11
  refine zx_istore E (lv1 := [(6, .int (zx_b s0)), (0, .long x0), (2, .long x2), (4, .long x4)]) dd_Ref_whole_11 (by decide) rfl ?_
  refine zx_lload_n E 1 dd_Ref_whole_13 rfl rfl ?_
  refine zx_bipush E (52 : Int32) dd_Ref_whole_14 (by decide) ?_
  refine zx_lshr E dd_Ref_whole_16 ?_
  refine zx_ldc2 E (2047 : Int64) zw_1442 dd_Ref_whole_17 ?_
  refine zx_land E dd_Ref_whole_20 ?_
  refine zx_l2i E dd_Ref_whole_21 ?_
  refine zx_sipush E (1023 : Int32) dd_Ref_whole_22 (by decide) ?_
  refine zx_isub E dd_Ref_whole_25 ?_
  refine zx_leti (fun y1 => ?_)
  refine zx_istore E (lv1 := [(7, .int y1), (6, .int (zx_b s0)), (0, .long x0), (2, .long x2), (4, .long x4)]) dd_Ref_whole_26 (by decide) rfl ?_
  refine zx_lload_n E 2 dd_Ref_whole_28 rfl rfl ?_
  refine zx_ldc2 E (4503599627370495 : Int64) zw_1449 dd_Ref_whole_29 ?_
  refine zx_land E dd_Ref_whole_32 ?_
  refine zx_ldc2 E (4503599627370496 : Int64) zw_1444 dd_Ref_whole_33 ?_
  refine zx_lor E dd_Ref_whole_36 ?_
  refine zx_letl (fun y2 => ?_)
  refine zx_lstore E (lv1 := [(8, .long y2), (7, .int y1), (6, .int (zx_b s0)), (0, .long x0), (2, .long x2), (4, .long x4)]) dd_Ref_whole_37 (by decide) rfl ?_
  refine zx_iload E 1 dd_Ref_whole_39 rfl ?_
  refine zx_if_ge E 46 dd_Ref_whole_41 rfl ?_ ?_
  · refine zx_lconst E (0 : Int64) dd_Ref_whole_44 rfl ?_
    exact zx_lret E rfl rfl dd_Ref_whole_45
  refine zx_iload E 1 dd_Ref_whole_46 rfl ?_
  refine zx_bipush E (62 : Int32) dd_Ref_whole_48 (by decide) ?_
  refine zx_icmp_le E 65 dd_Ref_whole_50 rfl ?_ ?_
  · refine zx_iload E 2 dd_Ref_whole_53 rfl ?_
    refine zx_ifb_eq E (x := s0) 62 dd_Ref_whole_55 rfl ?_ ?_
    rotate_left
    · refine zx_lload E 5 dd_Ref_whole_62 rfl ?_
      exact zx_lret E rfl rfl dd_Ref_whole_64
    refine zx_lload_n E 4 dd_Ref_whole_58 rfl rfl ?_
    refine zx_goto E 64 dd_Ref_whole_59 rfl ?_
    exact zx_lret E rfl rfl dd_Ref_whole_64
  refine zx_iload E 1 dd_Ref_whole_65 rfl ?_
  refine zx_bipush E (52 : Int32) dd_Ref_whole_67 (by decide) ?_
  refine zx_icmp_le E 83 dd_Ref_whole_69 rfl ?_ ?_
  rotate_left
  · refine zx_lload E 0 dd_Ref_whole_83 rfl ?_
    refine zx_bipush E (52 : Int32) dd_Ref_whole_85 (by decide) ?_
    refine zx_iload E 1 dd_Ref_whole_87 rfl ?_
    refine zx_isub E dd_Ref_whole_89 ?_
    refine zx_lshr E dd_Ref_whole_90 ?_
    refine zx_sub [4, 5, 2] rfl ?_
    exact zj_Ref_whole_91 E h x2 x4 s0 (zx_clshr y2 ((52 : Int32) - y1))
  refine zx_lload E 0 dd_Ref_whole_72 rfl ?_
  refine zx_iload E 1 dd_Ref_whole_74 rfl ?_
  refine zx_bipush E (52 : Int32) dd_Ref_whole_76 (by decide) ?_
  refine zx_isub E dd_Ref_whole_78 ?_
  refine zx_lshl E dd_Ref_whole_79 ?_
  refine zx_goto E 91 dd_Ref_whole_80 rfl ?_
  refine zx_sub [4, 5, 2] rfl ?_
  exact zj_Ref_whole_91 E h x2 x4 s0 (zx_clshl y2 (y1 - (52 : Int32)))
set_option maxHeartbeats 4000000 in
set_option maxRecDepth 20000 in
theorem zt_Ref_whole (l : Launch) (K : zx_K) (a0 : Int64) (a2 : Int64) (a4 : Int64) (h : zx_H) (r : Int64) (hf : zs_Ref_whole a0 a2 a4 h = some r) : zx_MR l zm_Ref_whole zy_Ref_whole K [.long a0, .long a2, .long a4] h (some (.long r)) h := by
  refine zx_ofM (M := zm_Ref_whole) (y := zy_Ref_whole) (r := r) (as := [.long a0, .long a2, .long a4]) (ρ := (fun r => ((some (Value.long r) : Option Value), h))) (by decide) rfl hf (Nat.le_of_ble_eq_true rfl) ?_
  intro B hl hK E
  subst hK
  subst hl
  show zx_X B zm_Ref_whole _ _ 0 0 0 [(0, .long a0), (2, .long a2), (4, .long a4)] [] h
  unfold zs_Ref_whole
  refine zx_lload_n E 0 dd_Ref_whole_0 rfl rfl ?_
  refine zx_lconst E (0 : Int64) dd_Ref_whole_1 rfl ?_
  refine zx_lcmp_ge E 10 dd_Ref_whole_2 dd_Ref_whole_3 rfl ?_ ?_
  rotate_left
  · refine zx_iconst E (0 : Int32) dd_Ref_whole_10 (by decide) ?_
    exact zj_Ref_whole_11 E h a0 a2 a4 false
  refine zx_iconst E (1 : Int32) dd_Ref_whole_6 (by decide) ?_
  refine zx_goto E 11 dd_Ref_whole_7 rfl ?_
  exact zj_Ref_whole_11 E h a0 a2 a4 true
set_option maxHeartbeats 4000000 in
set_option maxRecDepth 20000 in
theorem zj_Ref_castFrom_56 {B : zx_B} (E : zx_E B zm_Ref_castFrom) (h : zx_H)  (x3 : Int32) (s0 : Int64) : zx_X B zm_Ref_castFrom (zx_QM B (fun r => ((some (Value.long r) : Option Value), h))) (zs_Ref_castFrom_J56 h  x3 s0) 0 0 56 [(3, .int x3)] [.long s0] h := by
  unfold zs_Ref_castFrom_J56
  refine zx_lstore E (lv1 := [(4, .long s0), (3, .int x3)]) dd_Ref_castFrom_56 (by decide) rfl ?_
  refine zx_lload E 0 dd_Ref_castFrom_58 rfl ?_
  refine zx_iload_n E 1 dd_Ref_castFrom_60 rfl rfl ?_
  refine zx_callS_l E [.long s0, .int x3] (fun rZ eZ => zt_Ref_cast _ _ s0 x3 h _ eZ) zc_Ref_224 ⟨by decide, by decide⟩ (Nat.zero_le _) (Nat.zero_le _) rfl rfl (Nat.le_of_ble_eq_true rfl) dd_Ref_castFrom_61 (fun r1 => ?_)
  exact zx_lret E rfl rfl dd_Ref_castFrom_64
set_option maxHeartbeats 4000000 in
set_option maxRecDepth 20000 in
theorem zt_Ref_castFrom (l : Launch) (K : zx_K) (a0 : Int64) (a2 : Int32) (a3 : Int32) (h : zx_H) (r : Int64) (hf : zs_Ref_castFrom a0 a2 a3 h = some r) : zx_MR l zm_Ref_castFrom zy_Ref_castFrom K [.long a0, .int a2, .int a3] h (some (.long r)) h := by
  refine zx_ofM (M := zm_Ref_castFrom) (y := zy_Ref_castFrom) (r := r) (as := [.long a0, .int a2, .int a3]) (ρ := (fun r => ((some (Value.long r) : Option Value), h))) (by decide) rfl hf (Nat.le_of_ble_eq_true rfl) ?_
  intro B hl hK E
  subst hK
  subst hl
  show zx_X B zm_Ref_castFrom _ _ 0 0 0 [(0, .long a0), (2, .int a2), (3, .int a3)] [] h
  unfold zs_Ref_castFrom
  refine zx_iload_n E 1 dd_Ref_castFrom_0 rfl rfl ?_
  refine zx_iload_n E 2 dd_Ref_castFrom_1 rfl rfl ?_
  refine zx_icmp_ne E 7 dd_Ref_castFrom_2 rfl ?_ ?_
  · refine zx_lload_n E 0 dd_Ref_castFrom_5 rfl rfl ?_
    exact zx_lret E rfl rfl dd_Ref_castFrom_6
  refine zx_iload_n E 2 dd_Ref_castFrom_7 rfl rfl ?_
  refine zx_bipush E (6 : Int32) dd_Ref_castFrom_8 (by decide) ?_
  refine zx_icmp_ne E 18 dd_Ref_castFrom_10 rfl ?_ ?_
  · refine zx_lload_n E 0 dd_Ref_castFrom_13 rfl rfl ?_
    refine zx_callS_l E [.long a0] (fun rZ eZ => zt_Ref_doubled _ _ a0 h _ eZ) zc_Ref_255 ⟨by decide, by decide⟩ (Nat.zero_le _) (Nat.zero_le _) rfl rfl (Nat.le_of_ble_eq_true rfl) dd_Ref_castFrom_14 (fun r1 => ?_)
    exact zx_lret E rfl rfl dd_Ref_castFrom_17
  refine zx_iload_n E 1 dd_Ref_castFrom_18 rfl rfl ?_
  refine zx_bipush E (6 : Int32) dd_Ref_castFrom_19 (by decide) ?_
  refine zx_icmp_eq E 28 dd_Ref_castFrom_21 rfl ?_ ?_
  · refine zx_lload_n E 0 dd_Ref_castFrom_24 rfl rfl ?_
    refine zx_goto E 56 dd_Ref_castFrom_25 rfl ?_
    refine zx_sub [2] rfl ?_
    exact zj_Ref_castFrom_56 E h a3 a0
  refine zx_iload_n E 2 dd_Ref_castFrom_28 rfl rfl ?_
  refine zx_iconst E (4 : Int32) dd_Ref_castFrom_29 (by decide) ?_
  refine zx_icmp_ne E 46 dd_Ref_castFrom_30 rfl ?_ ?_
  rotate_left
  · refine zx_lload_n E 0 dd_Ref_castFrom_46 rfl rfl ?_
    refine zx_ldc2 E (-2147483648 : Int64) zw_1450 dd_Ref_castFrom_47 ?_
    refine zx_ldc2 E (2147483647 : Int64) zw_1451 dd_Ref_castFrom_50 ?_
    refine zx_callS_l E [.long a0, .long (-2147483648 : Int64), .long (2147483647 : Int64)] (fun rZ eZ => zt_Ref_whole _ _ a0 (-2147483648 : Int64) (2147483647 : Int64) h _ eZ) zc_Ref_259 ⟨by decide, by decide⟩ (Nat.zero_le _) (Nat.zero_le _) rfl rfl (Nat.le_of_ble_eq_true rfl) dd_Ref_castFrom_53 (fun r3 => ?_)
    refine zx_sub [2] rfl ?_
    exact zj_Ref_castFrom_56 E h a3 r3
  refine zx_lload_n E 0 dd_Ref_castFrom_33 rfl rfl ?_
  refine zx_ldc2 E (-9223372036854775808 : Int64) zw_1445 dd_Ref_castFrom_34 ?_
  refine zx_ldc2 E (9223372036854775807 : Int64) zw_1383 dd_Ref_castFrom_37 ?_
  refine zx_callS_l E [.long a0, .long (-9223372036854775808 : Int64), .long (9223372036854775807 : Int64)] (fun rZ eZ => zt_Ref_whole _ _ a0 (-9223372036854775808 : Int64) (9223372036854775807 : Int64) h _ eZ) zc_Ref_259 ⟨by decide, by decide⟩ (Nat.zero_le _) (Nat.zero_le _) rfl rfl (Nat.le_of_ble_eq_true rfl) dd_Ref_castFrom_40 (fun r2 => ?_)
  refine zx_goto E 56 dd_Ref_castFrom_43 rfl ?_
  refine zx_sub [2] rfl ?_
  exact zj_Ref_castFrom_56 E h a3 r2
set_option maxHeartbeats 4000000 in
set_option maxRecDepth 20000 in
theorem zt_Ref_write (l : Launch) (K : zx_K) (a1 : Int32) (h : zx_H) (r : zx_H) (hf : zs_Ref_write a1 h = some r) : zx_MR l zm_Ref_write zy_Ref_write K [zx_rV K 24 0, .int a1] h none r := by
  refine zx_ofM (M := zm_Ref_write) (y := zy_Ref_write) (r := r) (as := [zx_rV K 24 0, .int a1]) (ρ := (fun r => ((none : Option Value), r))) (by decide) rfl hf (Nat.le_of_ble_eq_true rfl) ?_
  intro B hl hK E
  subst hK
  subst hl
  show zx_X B zm_Ref_write _ _ 0 0 0 [(0, zx_rV (zx_BK B) 24 0), (1, .int a1)] [] h
  unfold zs_Ref_write
  refine zx_aload_n E 0 dd_Ref_write_0 rfl rfl ?_
  refine zx_getR E 51 0 zd_Ref_text zg_24 Nat.zero_lt_one (zr_Ref_text _) zw_1146 dd_Ref_write_1 ?_
  refine zx_aload_n E 0 dd_Ref_write_4 rfl rfl ?_
  refine zx_getI E zd_Ref_length zg_24 Nat.zero_lt_one zw_1145 dd_Ref_write_5 ?_
  refine zx_iload_n E 1 dd_Ref_write_8 rfl rfl ?_
  refine zx_iast E zg_51 Nat.zero_lt_one dd_Ref_write_9 ?_
  refine zx_letH (fun h1 => ?_)
  refine zx_aload_n E 0 dd_Ref_write_10 rfl rfl ?_
  refine zx_dup E dd_Ref_write_11 rfl ?_
  refine zx_getI E zd_Ref_length zg_24 Nat.zero_lt_one zw_1145 dd_Ref_write_12 ?_
  refine zx_iconst E (1 : Int32) dd_Ref_write_15 (by decide) ?_
  refine zx_iadd E dd_Ref_write_16 ?_
  refine zx_putI E zd_Ref_length zp_Ref_length zg_24 Nat.zero_lt_one rfl rfl zw_1145 dd_Ref_write_17 ?_
  refine zx_letH (fun h2 => ?_)
  exact zx_vret E rfl rfl dd_Ref_write_20
set_option maxHeartbeats 4000000 in
set_option maxRecDepth 20000 in
theorem zj_Ref_writeNumber_34 {B : zx_B} (E : zx_E B zm_Ref_writeNumber) (k14 : (Int64 → Int64 → zx_H → Option zx_H)) (hk14 : ∀ (x1 : Int64) (x3 : Int64) (h : zx_H), zx_X B zm_Ref_writeNumber (zx_QM B (fun r => ((none : Option Value), r))) (k14 x1 x3 h) 0 0 14 [(0, zx_rV (zx_BK B) 24 0), (1, .long x1), (3, .long x3)] [] h) (x1 : Int64) (x3 : Int64) (h : zx_H) : zx_X B zm_Ref_writeNumber (zx_QM B (fun r => ((none : Option Value), r))) (zs_Ref_writeNumber_J34 k14 x1 x3 h) 0 0 34 [(0, zx_rV (zx_BK B) 24 0), (1, .long x1), (3, .long x3)] [] h := by
  unfold zs_Ref_writeNumber_J34
  refine zx_lload_n E 2 dd_Ref_writeNumber_34 rfl rfl ?_
  refine zx_ldc2 E (10 : Int64) zw_1466 dd_Ref_writeNumber_35 ?_
  refine zx_lmul E dd_Ref_writeNumber_38 ?_
  refine zx_letl (fun y1 => ?_)
  refine zx_lstore_n E (lv1 := [(3, .long y1), (0, zx_rV (zx_BK B) 24 0), (1, .long x1)]) dd_Ref_writeNumber_39 rfl (by decide) rfl ?_
  refine zx_goto E 14 dd_Ref_writeNumber_40 rfl ?_
  refine zx_sub [1, 2, 0] rfl ?_
  exact hk14 x1 y1 h
set_option maxHeartbeats 4000000 in
set_option maxRecDepth 20000 in
theorem zj_Ref_writeNumber_77 {B : zx_B} (E : zx_E B zm_Ref_writeNumber) (k43 : (Int64 → Int64 → zx_H → Option zx_H)) (hk43 : ∀ (x1 : Int64) (x3 : Int64) (h : zx_H), zx_X B zm_Ref_writeNumber (zx_QM B (fun r => ((none : Option Value), r))) (k43 x1 x3 h) 0 0 43 [(0, zx_rV (zx_BK B) 24 0), (1, .long x1), (3, .long x3)] [] h) (x1 : Int64) (x3 : Int64) (s1 : Int64) (s2 : Int64) (h : zx_H) : zx_X B zm_Ref_writeNumber (zx_QM B (fun r => ((none : Option Value), r))) (zs_Ref_writeNumber_J77 k43 x1 x3 s1 s2 h) 0 0 77 [(0, zx_rV (zx_BK B) 24 0), (1, .long x1), (3, .long x3)] [.long s2, .long s1, zx_rV (zx_BK B) 24 0] h := by
  unfold zs_Ref_writeNumber_J77
  refine zx_ladd E dd_Ref_writeNumber_77 ?_
  refine zx_l2i E dd_Ref_writeNumber_78 ?_
  refine zx_callV_v (T := zx_TRef) E [.int ((s1 + s2).toInt32)] (fun rZ eZ => zt_Ref_write _ _ ((s1 + s2).toInt32) h _ eZ) zg_24 Nat.zero_lt_one rfl zc_Ref_270 ⟨by decide, by decide⟩ (Nat.zero_le _) (Nat.zero_le _) rfl rfl (Nat.le_of_ble_eq_true rfl) dd_Ref_writeNumber_79 (fun r1 => ?_)
  refine zx_lload_n E 2 dd_Ref_writeNumber_82 rfl rfl ?_
  refine zx_ldc2 E (10 : Int64) zw_1466 dd_Ref_writeNumber_83 ?_
  refine zx_ldivN E dd_Ref_writeNumber_86 (by decide) ?_
  refine zx_letl (fun y2 => ?_)
  refine zx_lstore_n E (lv1 := [(3, .long y2), (0, zx_rV (zx_BK B) 24 0), (1, .long x1)]) dd_Ref_writeNumber_87 rfl (by decide) rfl ?_
  refine zx_goto E 43 dd_Ref_writeNumber_88 rfl ?_
  refine zx_sub [1, 2, 0] rfl ?_
  exact hk43 x1 y2 r1
set_option maxHeartbeats 4000000 in
set_option maxRecDepth 20000 in
theorem zb_Ref_writeNumber_43 {B : zx_B} (E : zx_E B zm_Ref_writeNumber)  (k43 : (Int64 → Int64 → zx_H → Option zx_H)) (hk43 : ∀ (x1 : Int64) (x3 : Int64) (h : zx_H), zx_X B zm_Ref_writeNumber (zx_QM B (fun r => ((none : Option Value), r))) (k43 x1 x3 h) 0 0 43 [(0, zx_rV (zx_BK B) 24 0), (1, .long x1), (3, .long x3)] [] h) (x1 : Int64) (x3 : Int64) (h : zx_H) : zx_X B zm_Ref_writeNumber (zx_QM B (fun r => ((none : Option Value), r))) (zs_Ref_writeNumber_L43_body  k43 x1 x3 h) 0 0 43 [(0, zx_rV (zx_BK B) 24 0), (1, .long x1), (3, .long x3)] [] h := by
  unfold zs_Ref_writeNumber_L43_body
  refine zx_lload_n E 2 dd_Ref_writeNumber_43 rfl rfl ?_
  refine zx_lconst E (0 : Int64) dd_Ref_writeNumber_44 rfl ?_
  refine zx_lcmp_le E 91 dd_Ref_writeNumber_45 dd_Ref_writeNumber_46 rfl ?_ ?_
  rotate_left
  · exact zx_vret E rfl rfl dd_Ref_writeNumber_91
  refine zx_lload_n E 1 dd_Ref_writeNumber_49 rfl rfl ?_
  refine zx_lload_n E 2 dd_Ref_writeNumber_50 rfl rfl ?_
  refine zx_ldiv E dd_Ref_writeNumber_51 ?_
  refine zx_ldc2 E (10 : Int64) zw_1466 dd_Ref_writeNumber_52 ?_
  refine zx_lremN E dd_Ref_writeNumber_55 (by decide) ?_
  refine zx_letl (fun y1 => ?_)
  refine zx_lstore E (lv1 := [(5, .long y1), (0, zx_rV (zx_BK B) 24 0), (1, .long x1), (3, .long x3)]) dd_Ref_writeNumber_56 (by decide) rfl ?_
  refine zx_aload_n E 1 dd_Ref_writeNumber_58 rfl rfl ?_
  refine zx_ldc2 E (48 : Int64) zw_1467 dd_Ref_writeNumber_59 ?_
  refine zx_lload E 0 dd_Ref_writeNumber_62 rfl ?_
  refine zx_lconst E (0 : Int64) dd_Ref_writeNumber_64 rfl ?_
  refine zx_lcmp_ge E 75 dd_Ref_writeNumber_65 dd_Ref_writeNumber_66 rfl ?_ ?_
  rotate_left
  · refine zx_lload E 0 dd_Ref_writeNumber_75 rfl ?_
    refine zx_sub [1, 2, 3] rfl ?_
    exact zj_Ref_writeNumber_77 E k43 hk43 x1 x3 (48 : Int64) y1 h
  refine zx_lload E 0 dd_Ref_writeNumber_69 rfl ?_
  refine zx_lneg E dd_Ref_writeNumber_71 ?_
  refine zx_goto E 77 dd_Ref_writeNumber_72 rfl ?_
  refine zx_sub [1, 2, 3] rfl ?_
  exact zj_Ref_writeNumber_77 E k43 hk43 x1 x3 (48 : Int64) (-y1) h
theorem zj_Ref_writeNumber_43 {B : zx_B} (E : zx_E B zm_Ref_writeNumber)  : ∀ (x1 : Int64) (x3 : Int64) (h : zx_H), zx_X B zm_Ref_writeNumber (zx_QM B (fun r => ((none : Option Value), r))) (zs_Ref_writeNumber_L43  x1 x3 h) 0 0 43 [(0, zx_rV (zx_BK B) 24 0), (1, .long x1), (3, .long x3)] [] h := by
  unfold zs_Ref_writeNumber_L43
  generalize zx_fuel = n
  induction n with
  | zero => intros; exact zx_non
  | succ n ih => intro x1 x3 h; exact zb_Ref_writeNumber_43 E  _ ih x1 x3 h
set_option maxHeartbeats 4000000 in
set_option maxRecDepth 20000 in
theorem zb_Ref_writeNumber_14 {B : zx_B} (E : zx_E B zm_Ref_writeNumber)  (k14 : (Int64 → Int64 → zx_H → Option zx_H)) (hk14 : ∀ (x1 : Int64) (x3 : Int64) (h : zx_H), zx_X B zm_Ref_writeNumber (zx_QM B (fun r => ((none : Option Value), r))) (k14 x1 x3 h) 0 0 14 [(0, zx_rV (zx_BK B) 24 0), (1, .long x1), (3, .long x3)] [] h) (x1 : Int64) (x3 : Int64) (h : zx_H) : zx_X B zm_Ref_writeNumber (zx_QM B (fun r => ((none : Option Value), r))) (zs_Ref_writeNumber_L14_body  k14 x1 x3 h) 0 0 14 [(0, zx_rV (zx_BK B) 24 0), (1, .long x1), (3, .long x3)] [] h := by
  unfold zs_Ref_writeNumber_L14_body
  refine zx_lload_n E 1 dd_Ref_writeNumber_14 rfl rfl ?_
  refine zx_lload_n E 2 dd_Ref_writeNumber_15 rfl rfl ?_
  refine zx_ldiv E dd_Ref_writeNumber_16 ?_
  refine zx_ldc2 E (9 : Int64) zw_1464 dd_Ref_writeNumber_17 ?_
  refine zx_lcmp_gt E 34 dd_Ref_writeNumber_20 dd_Ref_writeNumber_21 rfl ?_ ?_
  rotate_left
  · exact zj_Ref_writeNumber_34 E k14 hk14 x1 x3 h
  refine zx_lload_n E 1 dd_Ref_writeNumber_24 rfl rfl ?_
  refine zx_lload_n E 2 dd_Ref_writeNumber_25 rfl rfl ?_
  refine zx_ldiv E dd_Ref_writeNumber_26 ?_
  refine zx_ldc2 E (-9 : Int64) zw_1465 dd_Ref_writeNumber_27 ?_
  refine zx_lcmp_ge E 43 dd_Ref_writeNumber_30 dd_Ref_writeNumber_31 rfl ?_ ?_
  · exact zj_Ref_writeNumber_34 E k14 hk14 x1 x3 h
  exact zj_Ref_writeNumber_43 E x1 x3 h
theorem zj_Ref_writeNumber_14 {B : zx_B} (E : zx_E B zm_Ref_writeNumber)  : ∀ (x1 : Int64) (x3 : Int64) (h : zx_H), zx_X B zm_Ref_writeNumber (zx_QM B (fun r => ((none : Option Value), r))) (zs_Ref_writeNumber_L14  x1 x3 h) 0 0 14 [(0, zx_rV (zx_BK B) 24 0), (1, .long x1), (3, .long x3)] [] h := by
  unfold zs_Ref_writeNumber_L14
  generalize zx_fuel = n
  induction n with
  | zero => intros; exact zx_non
  | succ n ih => intro x1 x3 h; exact zb_Ref_writeNumber_14 E  _ ih x1 x3 h
set_option maxHeartbeats 4000000 in
set_option maxRecDepth 20000 in
theorem zj_Ref_writeNumber_12 {B : zx_B} (E : zx_E B zm_Ref_writeNumber)  (x1 : Int64) (h : zx_H) : zx_X B zm_Ref_writeNumber (zx_QM B (fun r => ((none : Option Value), r))) (zs_Ref_writeNumber_J12  x1 h) 0 0 12 [(0, zx_rV (zx_BK B) 24 0), (1, .long x1)] [] h := by
  unfold zs_Ref_writeNumber_J12
  refine zx_lconst E (1 : Int64) dd_Ref_writeNumber_12 rfl ?_
  refine zx_lstore_n E (lv1 := [(3, .long (1 : Int64)), (0, zx_rV (zx_BK B) 24 0), (1, .long x1)]) dd_Ref_writeNumber_13 rfl (by decide) rfl ?_
  refine zx_sub [1, 2, 0] rfl ?_
  exact zj_Ref_writeNumber_14 E x1 (1 : Int64) h
set_option maxHeartbeats 4000000 in
set_option maxRecDepth 20000 in
theorem zt_Ref_writeNumber (l : Launch) (K : zx_K) (a1 : Int64) (h : zx_H) (r : zx_H) (hf : zs_Ref_writeNumber a1 h = some r) : zx_MR l zm_Ref_writeNumber zy_Ref_writeNumber K [zx_rV K 24 0, .long a1] h none r := by
  refine zx_ofM (M := zm_Ref_writeNumber) (y := zy_Ref_writeNumber) (r := r) (as := [zx_rV K 24 0, .long a1]) (ρ := (fun r => ((none : Option Value), r))) (by decide) rfl hf (Nat.le_of_ble_eq_true rfl) ?_
  intro B hl hK E
  subst hK
  subst hl
  show zx_X B zm_Ref_writeNumber _ _ 0 0 0 [(0, zx_rV (zx_BK B) 24 0), (1, .long a1)] [] h
  unfold zs_Ref_writeNumber
  refine zx_lload_n E 1 dd_Ref_writeNumber_0 rfl rfl ?_
  refine zx_lconst E (0 : Int64) dd_Ref_writeNumber_1 rfl ?_
  refine zx_lcmp_ge E 12 dd_Ref_writeNumber_2 dd_Ref_writeNumber_3 rfl ?_ ?_
  rotate_left
  · exact zj_Ref_writeNumber_12 E a1 h
  refine zx_aload_n E 0 dd_Ref_writeNumber_6 rfl rfl ?_
  refine zx_bipush E (45 : Int32) dd_Ref_writeNumber_7 (by decide) ?_
  refine zx_callV_v (T := zx_TRef) E [.int (45 : Int32)] (fun rZ eZ => zt_Ref_write _ _ (45 : Int32) h _ eZ) zg_24 Nat.zero_lt_one rfl zc_Ref_270 ⟨by decide, by decide⟩ (Nat.zero_le _) (Nat.zero_le _) rfl rfl (Nat.le_of_ble_eq_true rfl) dd_Ref_writeNumber_9 (fun r1 => ?_)
  exact zj_Ref_writeNumber_12 E a1 r1
set_option maxHeartbeats 4000000 in
set_option maxRecDepth 20000 in
theorem zt_Ref_writeFour (l : Launch) (K : zx_K) (a1 : Int32) (a2 : Int32) (a3 : Int32) (a4 : Int32) (h : zx_H) (r : zx_H) (hf : zs_Ref_writeFour a1 a2 a3 a4 h = some r) : zx_MR l zm_Ref_writeFour zy_Ref_writeFour K [zx_rV K 24 0, .int a1, .int a2, .int a3, .int a4] h none r := by
  refine zx_ofM (M := zm_Ref_writeFour) (y := zy_Ref_writeFour) (r := r) (as := [zx_rV K 24 0, .int a1, .int a2, .int a3, .int a4]) (ρ := (fun r => ((none : Option Value), r))) (by decide) rfl hf (Nat.le_of_ble_eq_true rfl) ?_
  intro B hl hK E
  subst hK
  subst hl
  show zx_X B zm_Ref_writeFour _ _ 0 0 0 [(0, zx_rV (zx_BK B) 24 0), (1, .int a1), (2, .int a2), (3, .int a3), (4, .int a4)] [] h
  unfold zs_Ref_writeFour
  refine zx_aload_n E 0 dd_Ref_writeFour_0 rfl rfl ?_
  refine zx_iload_n E 1 dd_Ref_writeFour_1 rfl rfl ?_
  refine zx_callV_v (T := zx_TRef) E [.int a1] (fun rZ eZ => zt_Ref_write _ _ a1 h _ eZ) zg_24 Nat.zero_lt_one rfl zc_Ref_270 ⟨by decide, by decide⟩ (Nat.zero_le _) (Nat.zero_le _) rfl rfl (Nat.le_of_ble_eq_true rfl) dd_Ref_writeFour_2 (fun r1 => ?_)
  refine zx_aload_n E 0 dd_Ref_writeFour_5 rfl rfl ?_
  refine zx_iload_n E 2 dd_Ref_writeFour_6 rfl rfl ?_
  refine zx_callV_v (T := zx_TRef) E [.int a2] (fun rZ eZ => zt_Ref_write _ _ a2 r1 _ eZ) zg_24 Nat.zero_lt_one rfl zc_Ref_270 ⟨by decide, by decide⟩ (Nat.zero_le _) (Nat.zero_le _) rfl rfl (Nat.le_of_ble_eq_true rfl) dd_Ref_writeFour_7 (fun r2 => ?_)
  refine zx_aload_n E 0 dd_Ref_writeFour_10 rfl rfl ?_
  refine zx_iload_n E 3 dd_Ref_writeFour_11 rfl rfl ?_
  refine zx_callV_v (T := zx_TRef) E [.int a3] (fun rZ eZ => zt_Ref_write _ _ a3 r2 _ eZ) zg_24 Nat.zero_lt_one rfl zc_Ref_270 ⟨by decide, by decide⟩ (Nat.zero_le _) (Nat.zero_le _) rfl rfl (Nat.le_of_ble_eq_true rfl) dd_Ref_writeFour_12 (fun r3 => ?_)
  refine zx_aload_n E 0 dd_Ref_writeFour_15 rfl rfl ?_
  refine zx_iload E 4 dd_Ref_writeFour_16 rfl ?_
  refine zx_callV_v (T := zx_TRef) E [.int a4] (fun rZ eZ => zt_Ref_write _ _ a4 r3 _ eZ) zg_24 Nat.zero_lt_one rfl zc_Ref_270 ⟨by decide, by decide⟩ (Nat.zero_le _) (Nat.zero_le _) rfl rfl (Nat.le_of_ble_eq_true rfl) dd_Ref_writeFour_18 (fun r4 => ?_)
  exact zx_vret E rfl rfl dd_Ref_writeFour_21
set_option maxHeartbeats 4000000 in
set_option maxRecDepth 20000 in
theorem zj_Ref_newText_44 {B : zx_B} (E : zx_E B zm_Ref_newText)  (x1 : Int32) (h : zx_H) : zx_X B zm_Ref_newText (zx_QM B (fun r => ((some (Value.long r.1) : Option Value), r.2))) (zs_Ref_newText_J44  x1 h) 0 0 44 [(0, zx_rV (zx_BK B) 24 0), (1, .int x1)] [] h := by
  unfold zs_Ref_newText_J44
  refine zx_iload_n E 1 dd_Ref_newText_44 rfl rfl ?_
  refine zx_if_lt E 58 dd_Ref_newText_45 rfl ?_ ?_
  rotate_left
  · refine zx_iload_n E 1 dd_Ref_newText_58 rfl rfl ?_
    refine zx_i2l E dd_Ref_newText_59 ?_
    exact zx_lret E rfl rfl dd_Ref_newText_60
  refine zx_aload_n E 0 dd_Ref_newText_48 rfl rfl ?_
  refine zx_getR E 41 0 zd_Ref_count zg_24 Nat.zero_lt_one (zr_Ref_count _) zw_1132 dd_Ref_newText_49 ?_
  refine zx_iload_n E 1 dd_Ref_newText_52 rfl rfl ?_
  refine zx_aload_n E 0 dd_Ref_newText_53 rfl rfl ?_
  refine zx_getI E zd_Ref_length zg_24 Nat.zero_lt_one zw_1145 dd_Ref_newText_54 ?_
  refine zx_iast E zg_41 Nat.zero_lt_one dd_Ref_newText_57 ?_
  refine zx_letH (fun h1 => ?_)
  refine zx_iload_n E 1 dd_Ref_newText_58 rfl rfl ?_
  refine zx_i2l E dd_Ref_newText_59 ?_
  exact zx_lret E rfl rfl dd_Ref_newText_60
set_option maxHeartbeats 4000000 in
set_option maxRecDepth 20000 in
theorem zb_Ref_newText_9 {B : zx_B} (E : zx_E B zm_Ref_newText)  (k9 : (Int32 → Int32 → zx_H → Option (Int64 × zx_H))) (hk9 : ∀ (x1 : Int32) (x2 : Int32) (h : zx_H), zx_X B zm_Ref_newText (zx_QM B (fun r => ((some (Value.long r.1) : Option Value), r.2))) (k9 x1 x2 h) 0 0 9 [(0, zx_rV (zx_BK B) 24 0), (1, .int x1), (2, .int x2)] [] h) (x1 : Int32) (x2 : Int32) (h : zx_H) : zx_X B zm_Ref_newText (zx_QM B (fun r => ((some (Value.long r.1) : Option Value), r.2))) (zs_Ref_newText_L9_body  k9 x1 x2 h) 0 0 9 [(0, zx_rV (zx_BK B) 24 0), (1, .int x1), (2, .int x2)] [] h := by
  unfold zs_Ref_newText_L9_body
  refine zx_iload_n E 2 dd_Ref_newText_9 rfl rfl ?_
  refine zx_aload_n E 0 dd_Ref_newText_10 rfl rfl ?_
  refine zx_getI E zd_Ref_length zg_24 Nat.zero_lt_one zw_1145 dd_Ref_newText_11 ?_
  refine zx_icmp_ge E 44 dd_Ref_newText_14 rfl ?_ ?_
  rotate_left
  · refine zx_sub [0, 1] rfl ?_
    exact zj_Ref_newText_44 E x1 h
  refine zx_iload_n E 1 dd_Ref_newText_17 rfl rfl ?_
  refine zx_if_lt E 44 dd_Ref_newText_18 rfl ?_ ?_
  rotate_left
  · refine zx_sub [0, 1] rfl ?_
    exact zj_Ref_newText_44 E x1 h
  refine zx_aload_n E 0 dd_Ref_newText_21 rfl rfl ?_
  refine zx_getR E 43 0 zd_Ref_characters zg_24 Nat.zero_lt_one (zr_Ref_characters _) zw_1134 dd_Ref_newText_22 ?_
  refine zx_bipush E (24 : Int32) dd_Ref_newText_25 (by decide) ?_
  refine zx_iload_n E 1 dd_Ref_newText_27 rfl rfl ?_
  refine zx_imul E dd_Ref_newText_28 ?_
  refine zx_iload_n E 2 dd_Ref_newText_29 rfl rfl ?_
  refine zx_iadd E dd_Ref_newText_30 ?_
  refine zx_aload_n E 0 dd_Ref_newText_31 rfl rfl ?_
  refine zx_getR E 51 0 zd_Ref_text zg_24 Nat.zero_lt_one (zr_Ref_text _) zw_1146 dd_Ref_newText_32 ?_
  refine zx_iload_n E 2 dd_Ref_newText_35 rfl rfl ?_
  refine zx_iald E zg_51 Nat.zero_lt_one dd_Ref_newText_36 ?_
  refine zx_iast E zg_43 Nat.zero_lt_one dd_Ref_newText_37 ?_
  refine zx_letH (fun h1 => ?_)
  refine zx_iinc E 2 (x2 + (1 : Int32)) (lv1 := [(2, .int (x2 + (1 : Int32))), (0, zx_rV (zx_BK B) 24 0), (1, .int x1)]) dd_Ref_newText_38 rfl rfl (by decide) rfl ?_
  refine zx_goto E 9 dd_Ref_newText_41 rfl ?_
  refine zx_sub [1, 2, 0] rfl ?_
  exact hk9 x1 (x2 + (1 : Int32)) h1
theorem zj_Ref_newText_9 {B : zx_B} (E : zx_E B zm_Ref_newText)  : ∀ (x1 : Int32) (x2 : Int32) (h : zx_H), zx_X B zm_Ref_newText (zx_QM B (fun r => ((some (Value.long r.1) : Option Value), r.2))) (zs_Ref_newText_L9  x1 x2 h) 0 0 9 [(0, zx_rV (zx_BK B) 24 0), (1, .int x1), (2, .int x2)] [] h := by
  unfold zs_Ref_newText_L9
  generalize zx_fuel = n
  induction n with
  | zero => intros; exact zx_non
  | succ n ih => intro x1 x2 h; exact zb_Ref_newText_9 E  _ ih x1 x2 h
set_option maxHeartbeats 4000000 in
set_option maxRecDepth 20000 in
theorem zt_Ref_newText (l : Launch) (K : zx_K)  (h : zx_H) (r : (Int64 × zx_H)) (hf : zs_Ref_newText  h = some r) : zx_MR l zm_Ref_newText zy_Ref_newText K [zx_rV K 24 0] h (some (.long r.1)) r.2 := by
  refine zx_ofM (M := zm_Ref_newText) (y := zy_Ref_newText) (r := r) (as := [zx_rV K 24 0]) (ρ := (fun r => ((some (Value.long r.1) : Option Value), r.2))) (by decide) rfl hf (Nat.le_of_ble_eq_true rfl) ?_
  intro B hl hK E
  subst hK
  subst hl
  show zx_X B zm_Ref_newText _ _ 0 0 0 [(0, zx_rV (zx_BK B) 24 0)] [] h
  unfold zs_Ref_newText
  refine zx_aload_n E 0 dd_Ref_newText_0 rfl rfl ?_
  refine zx_bipush E (14 : Int32) dd_Ref_newText_1 (by decide) ?_
  refine zx_callV_iw (T := zx_TRef) E [.int (14 : Int32)] (fun rZ eZ => zt_Ref_object _ _ (14 : Int32) h _ eZ) zg_24 Nat.zero_lt_one rfl zc_Ref_239 ⟨by decide, by decide⟩ (Nat.zero_le _) (Nat.zero_le _) rfl rfl (Nat.le_of_ble_eq_true rfl) dd_Ref_newText_3 (fun r1 => ?_)
  refine zx_istore_n E (lv1 := [(1, .int r1.1), (0, zx_rV (zx_BK B) 24 0)]) dd_Ref_newText_6 rfl (by decide) rfl ?_
  refine zx_iconst E (0 : Int32) dd_Ref_newText_7 (by decide) ?_
  refine zx_istore_n E (lv1 := [(2, .int (0 : Int32)), (1, .int r1.1), (0, zx_rV (zx_BK B) 24 0)]) dd_Ref_newText_8 rfl (by decide) rfl ?_
  refine zx_sub [2, 1, 0] rfl ?_
  exact zj_Ref_newText_9 E r1.1 (0 : Int32) r1.2
set_option maxHeartbeats 4000000 in
set_option maxRecDepth 20000 in
theorem zj_Ref_toText_100 {B : zx_B} (E : zx_E B zm_Ref_toText)  (x2 : Int64) (x4 : Int32) (h : zx_H) : zx_X B zm_Ref_toText (zx_QM B (fun r => ((some (Value.long r.1) : Option Value), r.2))) (zs_Ref_toText_J100  x2 x4 h) 0 0 100 [(0, zx_rV (zx_BK B) 24 0), (2, .long x2), (4, .int x4)] [] h := by
  unfold zs_Ref_toText_J100
  refine zx_iload E 2 dd_Ref_toText_100 rfl ?_
  refine zx_iconst E (5 : Int32) dd_Ref_toText_102 (by decide) ?_
  refine zx_icmp_ne E 127 dd_Ref_toText_103 rfl ?_ ?_
  rotate_left
  · refine zx_aload_n E 0 dd_Ref_toText_127 rfl rfl ?_
    refine zx_lload_n E 1 dd_Ref_toText_128 rfl rfl ?_
    refine zx_callV_v (T := zx_TRef) E [.long x2] (fun rZ eZ => zt_Ref_writeNumber _ _ x2 h _ eZ) zg_24 Nat.zero_lt_one rfl zc_Ref_282 ⟨by decide, by decide⟩ (Nat.zero_le _) (Nat.zero_le _) rfl rfl (Nat.le_of_ble_eq_true rfl) dd_Ref_toText_129 (fun r4 => ?_)
    refine zx_aload_n E 0 dd_Ref_toText_132 rfl rfl ?_
    refine zx_callV_lw (T := zx_TRef) E [] (fun rZ eZ => zt_Ref_newText _ _ r4 _ eZ) zg_24 Nat.zero_lt_one rfl zc_Ref_290 ⟨by decide, by decide⟩ (Nat.zero_le _) (Nat.zero_le _) rfl rfl (Nat.le_of_ble_eq_true rfl) dd_Ref_toText_133 (fun r5 => ?_)
    exact zx_lret E rfl rfl dd_Ref_toText_136
  refine zx_aload_n E 0 dd_Ref_toText_106 rfl rfl ?_
  refine zx_bipush E (102 : Int32) dd_Ref_toText_107 (by decide) ?_
  refine zx_bipush E (97 : Int32) dd_Ref_toText_109 (by decide) ?_
  refine zx_bipush E (108 : Int32) dd_Ref_toText_111 (by decide) ?_
  refine zx_bipush E (115 : Int32) dd_Ref_toText_113 (by decide) ?_
  refine zx_callV_v (T := zx_TRef) E [.int (102 : Int32), .int (97 : Int32), .int (108 : Int32), .int (115 : Int32)] (fun rZ eZ => zt_Ref_writeFour _ _ (102 : Int32) (97 : Int32) (108 : Int32) (115 : Int32) h _ eZ) zg_24 Nat.zero_lt_one rfl zc_Ref_286 ⟨by decide, by decide⟩ (Nat.zero_le _) (Nat.zero_le _) rfl rfl (Nat.le_of_ble_eq_true rfl) dd_Ref_toText_115 (fun r1 => ?_)
  refine zx_aload_n E 0 dd_Ref_toText_118 rfl rfl ?_
  refine zx_bipush E (101 : Int32) dd_Ref_toText_119 (by decide) ?_
  refine zx_callV_v (T := zx_TRef) E [.int (101 : Int32)] (fun rZ eZ => zt_Ref_write _ _ (101 : Int32) r1 _ eZ) zg_24 Nat.zero_lt_one rfl zc_Ref_270 ⟨by decide, by decide⟩ (Nat.zero_le _) (Nat.zero_le _) rfl rfl (Nat.le_of_ble_eq_true rfl) dd_Ref_toText_121 (fun r2 => ?_)
  refine zx_goto E 132 dd_Ref_toText_124 rfl ?_
  refine zx_aload_n E 0 dd_Ref_toText_132 rfl rfl ?_
  refine zx_callV_lw (T := zx_TRef) E [] (fun rZ eZ => zt_Ref_newText _ _ r2 _ eZ) zg_24 Nat.zero_lt_one rfl zc_Ref_290 ⟨by decide, by decide⟩ (Nat.zero_le _) (Nat.zero_le _) rfl rfl (Nat.le_of_ble_eq_true rfl) dd_Ref_toText_133 (fun r3 => ?_)
  exact zx_lret E rfl rfl dd_Ref_toText_136
set_option maxHeartbeats 4000000 in
set_option maxRecDepth 20000 in
theorem zj_Ref_toText_20 {B : zx_B} (E : zx_E B zm_Ref_toText)  (x1 : Int32) (x2 : Int64) (s0 : Int32) (h : zx_H) : zx_X B zm_Ref_toText (zx_QM B (fun r => ((some (Value.long r.1) : Option Value), r.2))) (zs_Ref_toText_J20  x1 x2 s0 h) 0 0 20 [(0, zx_rV (zx_BK B) 24 0), (1, .int x1), (2, .long x2)] [.int s0] h := by
  unfold zs_Ref_toText_J20
  refine zx_istore E (lv1 := [(4, .int s0), (0, zx_rV (zx_BK B) 24 0), (1, .int x1), (2, .long x2)]) dd_Ref_toText_20 (by decide) rfl ?_
  refine zx_aload_n E 1 dd_Ref_toText_22 rfl rfl ?_
  refine zx_getR E 25 0 zd_Ref_sort zg_24 Nat.zero_lt_one (zr_Ref_sort _) zw_1110 dd_Ref_toText_23 ?_
  refine zx_iload_n E 2 dd_Ref_toText_26 rfl rfl ?_
  refine zx_iald E zg_25 Nat.zero_lt_one dd_Ref_toText_27 ?_
  refine zx_iconst E (3 : Int32) dd_Ref_toText_28 (by decide) ?_
  refine zx_icmp_ne E 58 dd_Ref_toText_29 rfl ?_ ?_
  · refine zx_aload_n E 1 dd_Ref_toText_32 rfl rfl ?_
    refine zx_bipush E (110 : Int32) dd_Ref_toText_33 (by decide) ?_
    refine zx_callV_v (T := zx_TRef) E [.int (110 : Int32)] (fun rZ eZ => zt_Ref_write _ _ (110 : Int32) h _ eZ) zg_24 Nat.zero_lt_one rfl zc_Ref_270 ⟨by decide, by decide⟩ (Nat.zero_le _) (Nat.zero_le _) rfl rfl (Nat.le_of_ble_eq_true rfl) dd_Ref_toText_35 (fun r1 => ?_)
    refine zx_aload_n E 1 dd_Ref_toText_38 rfl rfl ?_
    refine zx_aload_n E 1 dd_Ref_toText_39 rfl rfl ?_
    refine zx_getR E 27 0 zd_Ref_names zg_24 Nat.zero_lt_one (zr_Ref_names _) zw_1112 dd_Ref_toText_40 ?_
    refine zx_bipush E (8 : Int32) dd_Ref_toText_43 (by decide) ?_
    refine zx_iload_n E 2 dd_Ref_toText_45 rfl rfl ?_
    refine zx_imul E dd_Ref_toText_46 ?_
    refine zx_lload_n E 3 dd_Ref_toText_47 rfl rfl ?_
    refine zx_l2i E dd_Ref_toText_48 ?_
    refine zx_iadd E dd_Ref_toText_49 ?_
    refine zx_iald E zg_27 Nat.zero_lt_one dd_Ref_toText_50 ?_
    refine zx_i2l E dd_Ref_toText_51 ?_
    refine zx_callV_v (T := zx_TRef) E [.long ((r1.1 27 0 (((8 : Int32) * x1) + (x2.toInt32)).toNatClampNeg).toInt64)] (fun rZ eZ => zt_Ref_writeNumber _ _ ((r1.1 27 0 (((8 : Int32) * x1) + (x2.toInt32)).toNatClampNeg).toInt64) r1 _ eZ) zg_24 Nat.zero_lt_one rfl zc_Ref_282 ⟨by decide, by decide⟩ (Nat.zero_le _) (Nat.zero_le _) rfl rfl (Nat.le_of_ble_eq_true rfl) dd_Ref_toText_52 (fun r2 => ?_)
    refine zx_goto E 132 dd_Ref_toText_55 rfl ?_
    refine zx_aload_n E 1 dd_Ref_toText_132 rfl rfl ?_
    refine zx_callV_lw (T := zx_TRef) E [] (fun rZ eZ => zt_Ref_newText _ _ r2 _ eZ) zg_24 Nat.zero_lt_one rfl zc_Ref_290 ⟨by decide, by decide⟩ (Nat.zero_le _) (Nat.zero_le _) rfl rfl (Nat.le_of_ble_eq_true rfl) dd_Ref_toText_133 (fun r3 => ?_)
    exact zx_lret E rfl rfl dd_Ref_toText_136
  refine zx_iload E 0 dd_Ref_toText_58 rfl ?_
  refine zx_iconst E (2 : Int32) dd_Ref_toText_60 (by decide) ?_
  refine zx_icmp_ne E 73 dd_Ref_toText_61 rfl ?_ ?_
  · refine zx_aload_n E 1 dd_Ref_toText_64 rfl rfl ?_
    refine zx_lload_n E 3 dd_Ref_toText_65 rfl rfl ?_
    refine zx_l2i E dd_Ref_toText_66 ?_
    refine zx_callV_v (T := zx_TRef) E [.int (x2.toInt32)] (fun rZ eZ => zt_Ref_write _ _ (x2.toInt32) h _ eZ) zg_24 Nat.zero_lt_one rfl zc_Ref_270 ⟨by decide, by decide⟩ (Nat.zero_le _) (Nat.zero_le _) rfl rfl (Nat.le_of_ble_eq_true rfl) dd_Ref_toText_67 (fun r4 => ?_)
    refine zx_goto E 132 dd_Ref_toText_70 rfl ?_
    refine zx_aload_n E 1 dd_Ref_toText_132 rfl rfl ?_
    refine zx_callV_lw (T := zx_TRef) E [] (fun rZ eZ => zt_Ref_newText _ _ r4 _ eZ) zg_24 Nat.zero_lt_one rfl zc_Ref_290 ⟨by decide, by decide⟩ (Nat.zero_le _) (Nat.zero_le _) rfl rfl (Nat.le_of_ble_eq_true rfl) dd_Ref_toText_133 (fun r5 => ?_)
    exact zx_lret E rfl rfl dd_Ref_toText_136
  refine zx_iload E 0 dd_Ref_toText_73 rfl ?_
  refine zx_iconst E (5 : Int32) dd_Ref_toText_75 (by decide) ?_
  refine zx_icmp_ne E 100 dd_Ref_toText_76 rfl ?_ ?_
  rotate_left
  · refine zx_sub [1, 3, 0] rfl ?_
    exact zj_Ref_toText_100 E x2 s0 h
  refine zx_lload_n E 3 dd_Ref_toText_79 rfl rfl ?_
  refine zx_lconst E (1 : Int64) dd_Ref_toText_80 rfl ?_
  refine zx_lcmp_ne E 100 dd_Ref_toText_81 dd_Ref_toText_82 rfl ?_ ?_
  rotate_left
  · refine zx_sub [1, 3, 0] rfl ?_
    exact zj_Ref_toText_100 E x2 s0 h
  refine zx_aload_n E 1 dd_Ref_toText_85 rfl rfl ?_
  refine zx_bipush E (116 : Int32) dd_Ref_toText_86 (by decide) ?_
  refine zx_bipush E (114 : Int32) dd_Ref_toText_88 (by decide) ?_
  refine zx_bipush E (117 : Int32) dd_Ref_toText_90 (by decide) ?_
  refine zx_bipush E (101 : Int32) dd_Ref_toText_92 (by decide) ?_
  refine zx_callV_v (T := zx_TRef) E [.int (116 : Int32), .int (114 : Int32), .int (117 : Int32), .int (101 : Int32)] (fun rZ eZ => zt_Ref_writeFour _ _ (116 : Int32) (114 : Int32) (117 : Int32) (101 : Int32) h _ eZ) zg_24 Nat.zero_lt_one rfl zc_Ref_286 ⟨by decide, by decide⟩ (Nat.zero_le _) (Nat.zero_le _) rfl rfl (Nat.le_of_ble_eq_true rfl) dd_Ref_toText_94 (fun r6 => ?_)
  refine zx_goto E 132 dd_Ref_toText_97 rfl ?_
  refine zx_aload_n E 1 dd_Ref_toText_132 rfl rfl ?_
  refine zx_callV_lw (T := zx_TRef) E [] (fun rZ eZ => zt_Ref_newText _ _ r6 _ eZ) zg_24 Nat.zero_lt_one rfl zc_Ref_290 ⟨by decide, by decide⟩ (Nat.zero_le _) (Nat.zero_le _) rfl rfl (Nat.le_of_ble_eq_true rfl) dd_Ref_toText_133 (fun r7 => ?_)
  exact zx_lret E rfl rfl dd_Ref_toText_136
set_option maxHeartbeats 4000000 in
set_option maxRecDepth 20000 in
theorem zt_Ref_toText (l : Launch) (K : zx_K) (a1 : Int32) (a2 : Int64) (h : zx_H) (r : (Int64 × zx_H)) (hf : zs_Ref_toText a1 a2 h = some r) : zx_MR l zm_Ref_toText zy_Ref_toText K [zx_rV K 24 0, .int a1, .long a2] h (some (.long r.1)) r.2 := by
  refine zx_ofM (M := zm_Ref_toText) (y := zy_Ref_toText) (r := r) (as := [zx_rV K 24 0, .int a1, .long a2]) (ρ := (fun r => ((some (Value.long r.1) : Option Value), r.2))) (by decide) rfl hf (Nat.le_of_ble_eq_true rfl) ?_
  intro B hl hK E
  subst hK
  subst hl
  show zx_X B zm_Ref_toText _ _ 0 0 0 [(0, zx_rV (zx_BK B) 24 0), (1, .int a1), (2, .long a2)] [] h
  unfold zs_Ref_toText
  refine zx_aload_n E 0 dd_Ref_toText_0 rfl rfl ?_
  refine zx_iconst E (0 : Int32) dd_Ref_toText_1 (by decide) ?_
  refine zx_putI E zd_Ref_length zp_Ref_length zg_24 Nat.zero_lt_one rfl rfl zw_1145 dd_Ref_toText_2 ?_
  refine zx_letH (fun h1 => ?_)
  refine zx_iload_n E 1 dd_Ref_toText_5 rfl rfl ?_
  refine zx_callS_z E [.int a1] (fun rZ eZ => zt_Ref_isAmount _ _ a1 h1 _ eZ) zc_Ref_139 ⟨by decide, by decide⟩ (Nat.zero_le _) (Nat.zero_le _) rfl rfl (Nat.le_of_ble_eq_true rfl) dd_Ref_toText_6 (fun r2 => ?_)
  refine zx_ifb_eq E (x := r2) 19 dd_Ref_toText_9 rfl ?_ ?_
  rotate_left
  · refine zx_iconst E (-1 : Int32) dd_Ref_toText_19 (by decide) ?_
    exact zj_Ref_toText_20 E a1 a2 (-1 : Int32) h1
  refine zx_iload_n E 1 dd_Ref_toText_12 rfl rfl ?_
  refine zx_callS_i E [.int a1] (fun rZ eZ => zt_Ref_kindOf _ _ a1 h1 _ eZ) zc_Ref_142 ⟨by decide, by decide⟩ (Nat.zero_le _) (Nat.zero_le _) rfl rfl (Nat.le_of_ble_eq_true rfl) dd_Ref_toText_13 (fun r3 => ?_)
  refine zx_goto E 20 dd_Ref_toText_16 rfl ?_
  exact zj_Ref_toText_20 E a1 a2 r3 h1
