/-! walks (printed by gen.py) -/
set_option maxHeartbeats 4000000 in
set_option maxRecDepth 20000 in
theorem zj_Store_cell_31 {B : zx_B} (E : zx_E B zm_Store_cell) (h : zx_H)  (x1 : Int32) (x2 : Int32) (s0 : Bool) : zx_X B zm_Store_cell (zx_QM B (fun r => ((some (Value.long r) : Option Value), h))) (zs_Store_cell_J31 h  x1 x2 s0) 0 0 31 [(0, zx_rV (zx_BK B) 7 0), (1, .int x1), (2, .int x2)] [.int (zx_b s0)] h := by
  unfold zs_Store_cell_J31
  refine zx_istore_n E (lv1 := [(3, .int (zx_b s0)), (0, zx_rV (zx_BK B) 7 0), (1, .int x1), (2, .int x2)]) dd_Store_cell_31 rfl (by decide) rfl ?_
  refine zx_iload_n E 0 dd_Store_cell_32 rfl rfl ?_
  refine zx_ifb_eq E (x := s0) 50 dd_Store_cell_33 rfl ?_ ?_
  rotate_left
  · refine zx_lconst E (0 : Int64) dd_Store_cell_50 rfl ?_
    exact zx_lret E rfl rfl dd_Store_cell_51
  refine zx_aload_n E 1 dd_Store_cell_36 rfl rfl ?_
  refine zx_getR E 10 0 zd_Store_cells zg_7 Nat.zero_lt_one (zr_Store_cells _) zw_236 dd_Store_cell_37 ?_
  refine zx_iload_n E 2 dd_Store_cell_40 rfl rfl ?_
  refine zx_bipush E (24 : Int32) dd_Store_cell_41 (by decide) ?_
  refine zx_imul E dd_Store_cell_43 ?_
  refine zx_iload_n E 3 dd_Store_cell_44 rfl rfl ?_
  refine zx_iadd E dd_Store_cell_45 ?_
  refine zx_lald E zg_10 Nat.zero_lt_one dd_Store_cell_46 ?_
  refine zx_goto E 51 dd_Store_cell_47 rfl ?_
  exact zx_lret E rfl rfl dd_Store_cell_51
set_option maxHeartbeats 4000000 in
set_option maxRecDepth 20000 in
theorem zj_Store_cell_30 {B : zx_B} (E : zx_E B zm_Store_cell) (h : zx_H)  (x1 : Int32) (x2 : Int32) : zx_X B zm_Store_cell (zx_QM B (fun r => ((some (Value.long r) : Option Value), h))) (zs_Store_cell_J30 h  x1 x2) 0 0 30 [(0, zx_rV (zx_BK B) 7 0), (1, .int x1), (2, .int x2)] [] h := by
  unfold zs_Store_cell_J30
  refine zx_iconst E (0 : Int32) dd_Store_cell_30 (by decide) ?_
  exact zj_Store_cell_31 E h x1 x2 false
set_option maxHeartbeats 4000000 in
set_option maxRecDepth 20000 in
theorem zt_Store_cell (l : Launch) (K : zx_K) (a1 : Int32) (a2 : Int32) (h : zx_H) (r : Int64) (hf : zs_Store_cell a1 a2 h = some r) : zx_MR l zm_Store_cell zy_Store_cell K [zx_rV K 7 0, .int a1, .int a2] h (some (.long r)) h := by
  refine zx_ofM (M := zm_Store_cell) (y := zy_Store_cell) (r := r) (as := [zx_rV K 7 0, .int a1, .int a2]) (ρ := (fun r => ((some (Value.long r) : Option Value), h))) (by decide) rfl hf (Nat.le_of_ble_eq_true rfl) ?_
  intro B hl hK E
  subst hK
  subst hl
  show zx_X B zm_Store_cell _ _ 0 0 0 [(0, zx_rV (zx_BK B) 7 0), (1, .int a1), (2, .int a2)] [] h
  unfold zs_Store_cell
  refine zx_iload_n E 1 dd_Store_cell_0 rfl rfl ?_
  refine zx_if_lt E 30 dd_Store_cell_1 rfl ?_ ?_
  rotate_left
  · exact zj_Store_cell_30 E h a1 a2
  refine zx_iload_n E 1 dd_Store_cell_4 rfl rfl ?_
  refine zx_aload_n E 0 dd_Store_cell_5 rfl rfl ?_
  refine zx_getI E zd_Store_size zg_7 Nat.zero_lt_one zw_237 dd_Store_cell_6 ?_
  refine zx_icmp_ge E 30 dd_Store_cell_9 rfl ?_ ?_
  rotate_left
  · exact zj_Store_cell_30 E h a1 a2
  refine zx_iload_n E 2 dd_Store_cell_12 rfl rfl ?_
  refine zx_if_lt E 30 dd_Store_cell_13 rfl ?_ ?_
  rotate_left
  · exact zj_Store_cell_30 E h a1 a2
  refine zx_iload_n E 2 dd_Store_cell_16 rfl rfl ?_
  refine zx_aload_n E 0 dd_Store_cell_17 rfl rfl ?_
  refine zx_getR E 9 0 zd_Store_lengths zg_7 Nat.zero_lt_one (zr_Store_lengths _) zw_235 dd_Store_cell_18 ?_
  refine zx_iload_n E 1 dd_Store_cell_21 rfl rfl ?_
  refine zx_iald E zg_9 Nat.zero_lt_one dd_Store_cell_22 ?_
  refine zx_icmp_ge E 30 dd_Store_cell_23 rfl ?_ ?_
  rotate_left
  · exact zj_Store_cell_30 E h a1 a2
  refine zx_iconst E (1 : Int32) dd_Store_cell_26 (by decide) ?_
  refine zx_goto E 31 dd_Store_cell_27 rfl ?_
  exact zj_Store_cell_31 E h a1 a2 true
set_option maxHeartbeats 4000000 in
set_option maxRecDepth 20000 in
theorem zt_Converter_unboxed (l : Launch) (K : zx_K) (a1 : Int32) (a2 : Int64) (h : zx_H) (r : Int64) (hf : zs_Converter_unboxed a1 a2 h = some r) : zx_MR l zm_Converter_unboxed zy_Converter_unboxed K [zx_rV K 23 0, .int a1, .long a2] h (some (.long r)) h := by
  refine zx_ofM (M := zm_Converter_unboxed) (y := zy_Converter_unboxed) (r := r) (as := [zx_rV K 23 0, .int a1, .long a2]) (ρ := (fun r => ((some (Value.long r) : Option Value), h))) (by decide) rfl hf (Nat.le_of_ble_eq_true rfl) ?_
  intro B hl hK E
  subst hK
  subst hl
  show zx_X B zm_Converter_unboxed _ _ 0 0 0 [(0, zx_rV (zx_BK B) 23 0), (1, .int a1), (2, .long a2)] [] h
  unfold zs_Converter_unboxed
  refine zx_iload_n E 1 dd_Converter_unboxed_0 rfl rfl ?_
  refine zx_callS_z E [.int a1] (fun rZ eZ => zt_Basics_isPrimitive _ _ a1 h _ eZ) zc_Converter_97 ⟨by decide, by decide⟩ (Nat.zero_le _) (Nat.zero_le _) rfl rfl (Nat.le_of_ble_eq_true rfl) dd_Converter_unboxed_1 (fun r1 => ?_)
  refine zx_ifb_eq E (x := r1) 11 dd_Converter_unboxed_4 rfl ?_ ?_
  · refine zx_lload_n E 2 dd_Converter_unboxed_7 rfl rfl ?_
    refine zx_goto E 21 dd_Converter_unboxed_8 rfl ?_
    exact zx_lret E rfl rfl dd_Converter_unboxed_21
  refine zx_aload_n E 0 dd_Converter_unboxed_11 rfl rfl ?_
  refine zx_getR E 7 0 zd_Converter_store zg_23 Nat.zero_lt_one (zr_Converter_store _) zw_311 dd_Converter_unboxed_12 ?_
  refine zx_lload_n E 2 dd_Converter_unboxed_15 rfl rfl ?_
  refine zx_l2i E dd_Converter_unboxed_16 ?_
  refine zx_iconst E (0 : Int32) dd_Converter_unboxed_17 (by decide) ?_
  refine zx_callV_l (T := zx_TStore) E [.int (a2.toInt32), .int (0 : Int32)] (fun rZ eZ => zt_Store_cell _ _ (a2.toInt32) (0 : Int32) h _ eZ) zg_7 Nat.zero_lt_one rfl zc_Converter_100 ⟨by decide, by decide⟩ (Nat.zero_le _) (Nat.zero_le _) rfl rfl (Nat.le_of_ble_eq_true rfl) dd_Converter_unboxed_18 (fun r2 => ?_)
  exact zx_lret E rfl rfl dd_Converter_unboxed_21
set_option maxHeartbeats 4000000 in
set_option maxRecDepth 20000 in
theorem zb_Converter_writeWord_2 {B : zx_B} (E : zx_E B zm_Converter_writeWord)  (k2 : (Int32 → Bool → Int32 → zx_H → Option zx_H)) (hk2 : ∀ (x1 : Int32) (x2 : Bool) (x3 : Int32) (h : zx_H), zx_X B zm_Converter_writeWord (zx_QM B (fun r => ((none : Option Value), r))) (k2 x1 x2 x3 h) 0 0 2 [(0, zx_rV (zx_BK B) 23 0), (1, .int x1), (2, .ref (zx_xa (zx_BK B) (zx_si x2))), (3, .int x3)] [] h) (x1 : Int32) (x2 : Bool) (x3 : Int32) (h : zx_H) : zx_X B zm_Converter_writeWord (zx_QM B (fun r => ((none : Option Value), r))) (zs_Converter_writeWord_L2_body  k2 x1 x2 x3 h) 0 0 2 [(0, zx_rV (zx_BK B) 23 0), (1, .int x1), (2, .ref (zx_xa (zx_BK B) (zx_si x2))), (3, .int x3)] [] h := by
  unfold zs_Converter_writeWord_L2_body
  refine zx_iload_n E 3 dd_Converter_writeWord_2 rfl rfl ?_
  refine zx_aload_n E 2 dd_Converter_writeWord_3 rfl rfl ?_
  refine zx_strlen E (b := x2) rfl ⟨by decide, by decide⟩ (Nat.zero_le _) (Nat.zero_le _) (Nat.le_of_ble_eq_true rfl) dd_Converter_writeWord_4 ?_
  refine zx_icmp_ge E 31 dd_Converter_writeWord_7 rfl ?_ ?_
  rotate_left
  · exact zx_vret E rfl rfl dd_Converter_writeWord_31
  refine zx_aload_n E 0 dd_Converter_writeWord_10 rfl rfl ?_
  refine zx_getR E 7 0 zd_Converter_store zg_23 Nat.zero_lt_one (zr_Converter_store _) zw_311 dd_Converter_writeWord_11 ?_
  refine zx_iload_n E 1 dd_Converter_writeWord_14 rfl rfl ?_
  refine zx_aload_n E 2 dd_Converter_writeWord_15 rfl rfl ?_
  refine zx_iload_n E 3 dd_Converter_writeWord_16 rfl rfl ?_
  refine zx_strchr E (b := x2) rfl ⟨by decide, by decide⟩ (Nat.zero_le _) (Nat.zero_le _) (Nat.le_of_ble_eq_true rfl) dd_Converter_writeWord_17 ?_
  refine zx_i2l E dd_Converter_writeWord_20 ?_
  refine zx_callV_zw (T := zx_TStore) E [.int x1, .long ((zx_sc x2 x3.toNatClampNeg).toInt64)] (fun rZ eZ => zt_Store_append _ _ x1 ((zx_sc x2 x3.toNatClampNeg).toInt64) h _ eZ) zg_7 Nat.zero_lt_one rfl zc_Converter_103 ⟨by decide, by decide⟩ (Nat.zero_le _) (Nat.zero_le _) rfl rfl (Nat.le_of_ble_eq_true rfl) dd_Converter_writeWord_21 (fun r1 => ?_)
  refine zx_pop E dd_Converter_writeWord_24 rfl ?_
  refine zx_iinc E 3 (x3 + (1 : Int32)) (lv1 := [(3, .int (x3 + (1 : Int32))), (0, zx_rV (zx_BK B) 23 0), (1, .int x1), (2, .ref (zx_xa (zx_BK B) (zx_si x2)))]) dd_Converter_writeWord_25 rfl rfl (by decide) rfl ?_
  refine zx_goto E 2 dd_Converter_writeWord_28 rfl ?_
  refine zx_sub [1, 2, 3, 0] rfl ?_
  exact hk2 x1 x2 (x3 + (1 : Int32)) r1.2
theorem zj_Converter_writeWord_2 {B : zx_B} (E : zx_E B zm_Converter_writeWord)  : ∀ (x1 : Int32) (x2 : Bool) (x3 : Int32) (h : zx_H), zx_X B zm_Converter_writeWord (zx_QM B (fun r => ((none : Option Value), r))) (zs_Converter_writeWord_L2  x1 x2 x3 h) 0 0 2 [(0, zx_rV (zx_BK B) 23 0), (1, .int x1), (2, .ref (zx_xa (zx_BK B) (zx_si x2))), (3, .int x3)] [] h := by
  unfold zs_Converter_writeWord_L2
  generalize zx_fuel = n
  induction n with
  | zero => intros; exact zx_non
  | succ n ih => intro x1 x2 x3 h; exact zb_Converter_writeWord_2 E  _ ih x1 x2 x3 h
set_option maxHeartbeats 4000000 in
set_option maxRecDepth 20000 in
theorem zt_Converter_writeWord (l : Launch) (K : zx_K) (a1 : Int32) (a2 : Bool) (h : zx_H) (r : zx_H) (hf : zs_Converter_writeWord a1 a2 h = some r) : zx_MR l zm_Converter_writeWord zy_Converter_writeWord K [zx_rV K 23 0, .int a1, .ref (zx_xa K (zx_si a2))] h none r := by
  refine zx_ofM (M := zm_Converter_writeWord) (y := zy_Converter_writeWord) (r := r) (as := [zx_rV K 23 0, .int a1, .ref (zx_xa K (zx_si a2))]) (ρ := (fun r => ((none : Option Value), r))) (by decide) rfl hf (Nat.le_of_ble_eq_true rfl) ?_
  intro B hl hK E
  subst hK
  subst hl
  show zx_X B zm_Converter_writeWord _ _ 0 0 0 [(0, zx_rV (zx_BK B) 23 0), (1, .int a1), (2, .ref (zx_xa (zx_BK B) (zx_si a2)))] [] h
  unfold zs_Converter_writeWord
  refine zx_iconst E (0 : Int32) dd_Converter_writeWord_0 (by decide) ?_
  refine zx_istore_n E (lv1 := [(3, .int (0 : Int32)), (0, zx_rV (zx_BK B) 23 0), (1, .int a1), (2, .ref (zx_xa (zx_BK B) (zx_si a2)))]) dd_Converter_writeWord_1 rfl (by decide) rfl ?_
  refine zx_sub [1, 2, 3, 0] rfl ?_
  exact zj_Converter_writeWord_2 E a1 a2 (0 : Int32) h
set_option maxHeartbeats 4000000 in
set_option maxRecDepth 20000 in
theorem zj_Converter_writePlain_20 {B : zx_B} (E : zx_E B zm_Converter_writePlain)  (s1 : Int32) (s2 : Bool) (h : zx_H) : zx_X B zm_Converter_writePlain (zx_QM B (fun r => ((none : Option Value), r))) (zs_Converter_writePlain_J20  s1 s2 h) 0 0 20 [] [.ref (zx_xa (zx_BK B) (zx_si s2)), .int s1, zx_rV (zx_BK B) 23 0] h := by
  unfold zs_Converter_writePlain_J20
  refine zx_callV_v (T := zx_TConverter) E [.int s1, .ref (zx_xa (zx_BK B) (zx_si s2))] (fun rZ eZ => zt_Converter_writeWord _ _ s1 s2 h _ eZ) zg_23 Nat.zero_lt_one rfl zc_Converter_140 ⟨by decide, by decide⟩ (Nat.zero_le _) (Nat.zero_le _) rfl rfl (Nat.le_of_ble_eq_true rfl) dd_Converter_writePlain_20 (fun r1 => ?_)
  refine zx_goto E 62 dd_Converter_writePlain_23 rfl ?_
  exact zx_vret E rfl rfl dd_Converter_writePlain_62
set_option maxHeartbeats 4000000 in
set_option maxRecDepth 20000 in
theorem zj_Converter_writePlain_58 {B : zx_B} (E : zx_E B zm_Converter_writePlain)  (x3 : Int64) (s1 : Int32) (s2 : Int32) (h : zx_H) : zx_X B zm_Converter_writePlain (zx_QM B (fun r => ((none : Option Value), r))) (zs_Converter_writePlain_J58  x3 s1 s2 h) 0 0 58 [(3, .long x3)] [.int s2, .int s1, zx_rV (zx_BK B) 23 0] h := by
  unfold zs_Converter_writePlain_J58
  refine zx_lload_n E 0 dd_Converter_writePlain_58 rfl rfl ?_
  refine zx_callV_v (T := zx_TConverter) E [.int s1, .int s2, .long x3] (fun rZ eZ => zt_Converter_writeNumber _ _ s1 s2 x3 h _ eZ) zg_23 Nat.zero_lt_one rfl zc_Converter_43 ⟨by decide, by decide⟩ (Nat.zero_le _) (Nat.zero_le _) rfl rfl (Nat.le_of_ble_eq_true rfl) dd_Converter_writePlain_59 (fun r1 => ?_)
  exact zx_vret E rfl rfl dd_Converter_writePlain_62
set_option maxHeartbeats 4000000 in
set_option maxRecDepth 20000 in
theorem zt_Converter_writePlain (l : Launch) (K : zx_K) (a1 : Int32) (a2 : Int32) (a3 : Int64) (h : zx_H) (r : zx_H) (hf : zs_Converter_writePlain a1 a2 a3 h = some r) : zx_MR l zm_Converter_writePlain zy_Converter_writePlain K [zx_rV K 23 0, .int a1, .int a2, .long a3] h none r := by
  refine zx_ofM (M := zm_Converter_writePlain) (y := zy_Converter_writePlain) (r := r) (as := [zx_rV K 23 0, .int a1, .int a2, .long a3]) (ρ := (fun r => ((none : Option Value), r))) (by decide) rfl hf (Nat.le_of_ble_eq_true rfl) ?_
  intro B hl hK E
  subst hK
  subst hl
  show zx_X B zm_Converter_writePlain _ _ 0 0 0 [(0, zx_rV (zx_BK B) 23 0), (1, .int a1), (2, .int a2), (3, .long a3)] [] h
  unfold zs_Converter_writePlain
  refine zx_iload_n E 2 dd_Converter_writePlain_0 rfl rfl ?_
  refine zx_iconst E (5 : Int32) dd_Converter_writePlain_1 (by decide) ?_
  refine zx_icmp_ne E 26 dd_Converter_writePlain_2 rfl ?_ ?_
  · refine zx_aload_n E 0 dd_Converter_writePlain_5 rfl rfl ?_
    refine zx_iload_n E 1 dd_Converter_writePlain_6 rfl rfl ?_
    refine zx_lload_n E 3 dd_Converter_writePlain_7 rfl rfl ?_
    refine zx_lconst E (1 : Int64) dd_Converter_writePlain_8 rfl ?_
    refine zx_lcmp_ne E 18 dd_Converter_writePlain_9 dd_Converter_writePlain_10 rfl ?_ ?_
    rotate_left
    · refine zx_ldcSF E rfl dd_Converter_writePlain_18 ?_
      refine zx_sub [] rfl ?_
      exact zj_Converter_writePlain_20 E a1 false h
    refine zx_ldcST E rfl dd_Converter_writePlain_13 ?_
    refine zx_goto E 20 dd_Converter_writePlain_15 rfl ?_
    refine zx_sub [] rfl ?_
    exact zj_Converter_writePlain_20 E a1 true h
  refine zx_iload_n E 2 dd_Converter_writePlain_26 rfl rfl ?_
  refine zx_iconst E (2 : Int32) dd_Converter_writePlain_27 (by decide) ?_
  refine zx_icmp_ne E 44 dd_Converter_writePlain_28 rfl ?_ ?_
  · refine zx_aload_n E 0 dd_Converter_writePlain_31 rfl rfl ?_
    refine zx_getR E 7 0 zd_Converter_store zg_23 Nat.zero_lt_one (zr_Converter_store _) zw_311 dd_Converter_writePlain_32 ?_
    refine zx_iload_n E 1 dd_Converter_writePlain_35 rfl rfl ?_
    refine zx_lload_n E 3 dd_Converter_writePlain_36 rfl rfl ?_
    refine zx_callV_zw (T := zx_TStore) E [.int a1, .long a3] (fun rZ eZ => zt_Store_append _ _ a1 a3 h _ eZ) zg_7 Nat.zero_lt_one rfl zc_Converter_103 ⟨by decide, by decide⟩ (Nat.zero_le _) (Nat.zero_le _) rfl rfl (Nat.le_of_ble_eq_true rfl) dd_Converter_writePlain_37 (fun r1 => ?_)
    refine zx_pop E dd_Converter_writePlain_40 rfl ?_
    refine zx_goto E 62 dd_Converter_writePlain_41 rfl ?_
    exact zx_vret E rfl rfl dd_Converter_writePlain_62
  refine zx_aload_n E 0 dd_Converter_writePlain_44 rfl rfl ?_
  refine zx_iload_n E 1 dd_Converter_writePlain_45 rfl rfl ?_
  refine zx_lload_n E 3 dd_Converter_writePlain_46 rfl rfl ?_
  refine zx_lconst E (0 : Int64) dd_Converter_writePlain_47 rfl ?_
  refine zx_lcmp_ge E 57 dd_Converter_writePlain_48 dd_Converter_writePlain_49 rfl ?_ ?_
  rotate_left
  · refine zx_iconst E (0 : Int32) dd_Converter_writePlain_57 (by decide) ?_
    refine zx_sub [3] rfl ?_
    exact zj_Converter_writePlain_58 E a3 a1 (0 : Int32) h
  refine zx_bipush E (45 : Int32) dd_Converter_writePlain_52 (by decide) ?_
  refine zx_goto E 58 dd_Converter_writePlain_54 rfl ?_
  refine zx_sub [3] rfl ?_
  exact zj_Converter_writePlain_58 E a3 a1 (45 : Int32) h
set_option maxHeartbeats 4000000 in
set_option maxRecDepth 20000 in
theorem zj_Converter_isNameText_58 {B : zx_B} (E : zx_E B zm_Converter_isNameText) (h : zx_H)   : zx_X B zm_Converter_isNameText (zx_QM B (fun r => ((some (Value.int (zx_b r)) : Option Value), h))) (zs_Converter_isNameText_J58 h  ) 0 0 58 [] [] h := by
  unfold zs_Converter_isNameText_J58
  refine zx_iconst E (0 : Int32) dd_Converter_isNameText_58 (by decide) ?_
  exact zx_zret E false rfl rfl rfl dd_Converter_isNameText_59
set_option maxHeartbeats 4000000 in
set_option maxRecDepth 20000 in
theorem zj_Converter_isNameText_118 {B : zx_B} (E : zx_E B zm_Converter_isNameText) (h : zx_H)   : zx_X B zm_Converter_isNameText (zx_QM B (fun r => ((some (Value.int (zx_b r)) : Option Value), h))) (zs_Converter_isNameText_J118 h  ) 0 0 118 [] [] h := by
  unfold zs_Converter_isNameText_J118
  refine zx_iconst E (0 : Int32) dd_Converter_isNameText_118 (by decide) ?_
  exact zx_zret E false rfl rfl rfl dd_Converter_isNameText_119
set_option maxHeartbeats 4000000 in
set_option maxRecDepth 20000 in
theorem zt_Converter_isNameText (l : Launch) (K : zx_K) (a1 : Int32) (a2 : Int32) (h : zx_H) (r : Bool) (hf : zs_Converter_isNameText a1 a2 h = some r) : zx_MR l zm_Converter_isNameText zy_Converter_isNameText K [zx_rV K 23 0, .int a1, .int a2] h (some (.int (zx_b r))) h := by
  refine zx_ofM (M := zm_Converter_isNameText) (y := zy_Converter_isNameText) (r := r) (as := [zx_rV K 23 0, .int a1, .int a2]) (ρ := (fun r => ((some (Value.int (zx_b r)) : Option Value), h))) (by decide) rfl hf (Nat.le_of_ble_eq_true rfl) ?_
  intro B hl hK E
  subst hK
  subst hl
  show zx_X B zm_Converter_isNameText _ _ 0 0 0 [(0, zx_rV (zx_BK B) 23 0), (1, .int a1), (2, .int a2)] [] h
  unfold zs_Converter_isNameText
  refine zx_aload_n E 0 dd_Converter_isNameText_0 rfl rfl ?_
  refine zx_getR E 7 0 zd_Converter_store zg_23 Nat.zero_lt_one (zr_Converter_store _) zw_311 dd_Converter_isNameText_1 ?_
  refine zx_iload_n E 1 dd_Converter_isNameText_4 rfl rfl ?_
  refine zx_iconst E (0 : Int32) dd_Converter_isNameText_5 (by decide) ?_
  refine zx_callV_l (T := zx_TStore) E [.int a1, .int (0 : Int32)] (fun rZ eZ => zt_Store_cell _ _ a1 (0 : Int32) h _ eZ) zg_7 Nat.zero_lt_one rfl zc_Converter_100 ⟨by decide, by decide⟩ (Nat.zero_le _) (Nat.zero_le _) rfl rfl (Nat.le_of_ble_eq_true rfl) dd_Converter_isNameText_6 (fun r1 => ?_)
  refine zx_ldc2 E (110 : Int64) zw_1028 dd_Converter_isNameText_9 ?_
  refine zx_lcmp_eq E 18 dd_Converter_isNameText_12 dd_Converter_isNameText_13 rfl ?_ ?_
  · refine zx_iconst E (0 : Int32) dd_Converter_isNameText_16 (by decide) ?_
    exact zx_zret E false rfl rfl rfl dd_Converter_isNameText_17
  refine zx_iload_n E 2 dd_Converter_isNameText_18 rfl rfl ?_
  refine zx_bipush E (10 : Int32) dd_Converter_isNameText_19 (by decide) ?_
  refine zx_icmp_ge E 60 dd_Converter_isNameText_21 rfl ?_ ?_
  · refine zx_aload_n E 0 dd_Converter_isNameText_24 rfl rfl ?_
    refine zx_getR E 7 0 zd_Converter_store zg_23 Nat.zero_lt_one (zr_Converter_store _) zw_311 dd_Converter_isNameText_25 ?_
    refine zx_iload_n E 1 dd_Converter_isNameText_28 rfl rfl ?_
    refine zx_callV_i (T := zx_TStore) E [.int a1] (fun rZ eZ => zt_Store_length _ _ a1 h _ eZ) zg_7 Nat.zero_lt_one rfl zc_Converter_109 ⟨by decide, by decide⟩ (Nat.zero_le _) (Nat.zero_le _) rfl rfl (Nat.le_of_ble_eq_true rfl) dd_Converter_isNameText_29 (fun r2 => ?_)
    refine zx_iconst E (2 : Int32) dd_Converter_isNameText_32 (by decide) ?_
    refine zx_icmp_ne E 58 dd_Converter_isNameText_33 rfl ?_ ?_
    rotate_left
    · refine zx_sub [] rfl ?_
      exact zj_Converter_isNameText_58 E h
    refine zx_aload_n E 0 dd_Converter_isNameText_36 rfl rfl ?_
    refine zx_getR E 7 0 zd_Converter_store zg_23 Nat.zero_lt_one (zr_Converter_store _) zw_311 dd_Converter_isNameText_37 ?_
    refine zx_iload_n E 1 dd_Converter_isNameText_40 rfl rfl ?_
    refine zx_iconst E (1 : Int32) dd_Converter_isNameText_41 (by decide) ?_
    refine zx_callV_l (T := zx_TStore) E [.int a1, .int (1 : Int32)] (fun rZ eZ => zt_Store_cell _ _ a1 (1 : Int32) h _ eZ) zg_7 Nat.zero_lt_one rfl zc_Converter_100 ⟨by decide, by decide⟩ (Nat.zero_le _) (Nat.zero_le _) rfl rfl (Nat.le_of_ble_eq_true rfl) dd_Converter_isNameText_42 (fun r3 => ?_)
    refine zx_bipush E (48 : Int32) dd_Converter_isNameText_45 (by decide) ?_
    refine zx_iload_n E 2 dd_Converter_isNameText_47 rfl rfl ?_
    refine zx_iadd E dd_Converter_isNameText_48 ?_
    refine zx_i2l E dd_Converter_isNameText_49 ?_
    refine zx_lcmp_ne E 58 dd_Converter_isNameText_50 dd_Converter_isNameText_51 rfl ?_ ?_
    rotate_left
    · refine zx_sub [] rfl ?_
      exact zj_Converter_isNameText_58 E h
    refine zx_iconst E (1 : Int32) dd_Converter_isNameText_54 (by decide) ?_
    refine zx_goto E 59 dd_Converter_isNameText_55 rfl ?_
    exact zx_zret E true rfl rfl rfl dd_Converter_isNameText_59
  refine zx_aload_n E 0 dd_Converter_isNameText_60 rfl rfl ?_
  refine zx_getR E 7 0 zd_Converter_store zg_23 Nat.zero_lt_one (zr_Converter_store _) zw_311 dd_Converter_isNameText_61 ?_
  refine zx_iload_n E 1 dd_Converter_isNameText_64 rfl rfl ?_
  refine zx_callV_i (T := zx_TStore) E [.int a1] (fun rZ eZ => zt_Store_length _ _ a1 h _ eZ) zg_7 Nat.zero_lt_one rfl zc_Converter_109 ⟨by decide, by decide⟩ (Nat.zero_le _) (Nat.zero_le _) rfl rfl (Nat.le_of_ble_eq_true rfl) dd_Converter_isNameText_65 (fun r4 => ?_)
  refine zx_iconst E (3 : Int32) dd_Converter_isNameText_68 (by decide) ?_
  refine zx_icmp_ne E 118 dd_Converter_isNameText_69 rfl ?_ ?_
  rotate_left
  · refine zx_sub [] rfl ?_
    exact zj_Converter_isNameText_118 E h
  refine zx_aload_n E 0 dd_Converter_isNameText_72 rfl rfl ?_
  refine zx_getR E 7 0 zd_Converter_store zg_23 Nat.zero_lt_one (zr_Converter_store _) zw_311 dd_Converter_isNameText_73 ?_
  refine zx_iload_n E 1 dd_Converter_isNameText_76 rfl rfl ?_
  refine zx_iconst E (1 : Int32) dd_Converter_isNameText_77 (by decide) ?_
  refine zx_callV_l (T := zx_TStore) E [.int a1, .int (1 : Int32)] (fun rZ eZ => zt_Store_cell _ _ a1 (1 : Int32) h _ eZ) zg_7 Nat.zero_lt_one rfl zc_Converter_100 ⟨by decide, by decide⟩ (Nat.zero_le _) (Nat.zero_le _) rfl rfl (Nat.le_of_ble_eq_true rfl) dd_Converter_isNameText_78 (fun r5 => ?_)
  refine zx_bipush E (48 : Int32) dd_Converter_isNameText_81 (by decide) ?_
  refine zx_iload_n E 2 dd_Converter_isNameText_83 rfl rfl ?_
  refine zx_bipush E (10 : Int32) dd_Converter_isNameText_84 (by decide) ?_
  refine zx_idivN E dd_Converter_isNameText_86 (by decide) ?_
  refine zx_iadd E dd_Converter_isNameText_87 ?_
  refine zx_i2l E dd_Converter_isNameText_88 ?_
  refine zx_lcmp_ne E 118 dd_Converter_isNameText_89 dd_Converter_isNameText_90 rfl ?_ ?_
  rotate_left
  · refine zx_sub [] rfl ?_
    exact zj_Converter_isNameText_118 E h
  refine zx_aload_n E 0 dd_Converter_isNameText_93 rfl rfl ?_
  refine zx_getR E 7 0 zd_Converter_store zg_23 Nat.zero_lt_one (zr_Converter_store _) zw_311 dd_Converter_isNameText_94 ?_
  refine zx_iload_n E 1 dd_Converter_isNameText_97 rfl rfl ?_
  refine zx_iconst E (2 : Int32) dd_Converter_isNameText_98 (by decide) ?_
  refine zx_callV_l (T := zx_TStore) E [.int a1, .int (2 : Int32)] (fun rZ eZ => zt_Store_cell _ _ a1 (2 : Int32) h _ eZ) zg_7 Nat.zero_lt_one rfl zc_Converter_100 ⟨by decide, by decide⟩ (Nat.zero_le _) (Nat.zero_le _) rfl rfl (Nat.le_of_ble_eq_true rfl) dd_Converter_isNameText_99 (fun r6 => ?_)
  refine zx_bipush E (48 : Int32) dd_Converter_isNameText_102 (by decide) ?_
  refine zx_iload_n E 2 dd_Converter_isNameText_104 rfl rfl ?_
  refine zx_bipush E (10 : Int32) dd_Converter_isNameText_105 (by decide) ?_
  refine zx_iremN E dd_Converter_isNameText_107 (by decide) ?_
  refine zx_iadd E dd_Converter_isNameText_108 ?_
  refine zx_i2l E dd_Converter_isNameText_109 ?_
  refine zx_lcmp_ne E 118 dd_Converter_isNameText_110 dd_Converter_isNameText_111 rfl ?_ ?_
  rotate_left
  · refine zx_sub [] rfl ?_
    exact zj_Converter_isNameText_118 E h
  refine zx_iconst E (1 : Int32) dd_Converter_isNameText_114 (by decide) ?_
  refine zx_goto E 119 dd_Converter_isNameText_115 rfl ?_
  exact zx_zret E true rfl rfl rfl dd_Converter_isNameText_119
set_option maxHeartbeats 4000000 in
set_option maxRecDepth 20000 in
theorem zb_Converter_constantOf_12 {B : zx_B} (E : zx_E B zm_Converter_constantOf)  (k12 : (Int32 → Int32 → Int32 → Int32 → zx_H → Option (Int64 × zx_H))) (hk12 : ∀ (x1 : Int32) (x2 : Int32) (x3 : Int32) (x4 : Int32) (h : zx_H), zx_X B zm_Converter_constantOf (zx_QM B (fun r => ((some (Value.long r.1) : Option Value), r.2))) (k12 x1 x2 x3 x4 h) 0 0 12 [(0, zx_rV (zx_BK B) 23 0), (1, .int x1), (2, .int x2), (3, .int x3), (4, .int x4)] [] h) (x1 : Int32) (x2 : Int32) (x3 : Int32) (x4 : Int32) (h : zx_H) : zx_X B zm_Converter_constantOf (zx_QM B (fun r => ((some (Value.long r.1) : Option Value), r.2))) (zs_Converter_constantOf_L12_body  k12 x1 x2 x3 x4 h) 0 0 12 [(0, zx_rV (zx_BK B) 23 0), (1, .int x1), (2, .int x2), (3, .int x3), (4, .int x4)] [] h := by
  unfold zs_Converter_constantOf_L12_body
  refine zx_iload E 4 dd_Converter_constantOf_12 rfl ?_
  refine zx_iload_n E 3 dd_Converter_constantOf_14 rfl rfl ?_
  refine zx_icmp_ge E 46 dd_Converter_constantOf_15 rfl ?_ ?_
  rotate_left
  · refine zx_aload_n E 0 dd_Converter_constantOf_46 rfl rfl ?_
    refine zx_iconst E (1 : Int32) dd_Converter_constantOf_47 (by decide) ?_
    refine zx_putI E zd_Converter_failed zp_Converter_failed zg_23 Nat.zero_lt_one rfl rfl zw_313 dd_Converter_constantOf_48 ?_
    refine zx_letH (fun h4 => ?_)
    refine zx_ldc2 E (-1 : Int64) zw_1029 dd_Converter_constantOf_51 ?_
    exact zx_lret E rfl rfl dd_Converter_constantOf_54
  refine zx_aload_n E 0 dd_Converter_constantOf_18 rfl rfl ?_
  refine zx_iload_n E 2 dd_Converter_constantOf_19 rfl rfl ?_
  refine zx_aload_n E 0 dd_Converter_constantOf_20 rfl rfl ?_
  refine zx_getR E 1 0 zd_Converter_types zg_23 Nat.zero_lt_one (zr_Converter_types _) zw_310 dd_Converter_constantOf_21 ?_
  refine zx_iload_n E 1 dd_Converter_constantOf_24 rfl rfl ?_
  refine zx_iload E 4 dd_Converter_constantOf_25 rfl ?_
  refine zx_callV_i (T := zx_TTypes) E [.int x1, .int x4] (fun rZ eZ => zt_Types_nameAt _ _ x1 x4 h _ eZ) zg_1 Nat.zero_lt_one rfl zc_Converter_39 ⟨by decide, by decide⟩ (Nat.zero_le _) (Nat.zero_le _) rfl rfl (Nat.le_of_ble_eq_true rfl) dd_Converter_constantOf_27 (fun r1 => ?_)
  refine zx_callV_z (T := zx_TConverter) E [.int x2, .int r1] (fun rZ eZ => zt_Converter_isNameText _ _ x2 r1 h _ eZ) zg_23 Nat.zero_lt_one rfl zc_Converter_160 ⟨by decide, by decide⟩ (Nat.zero_le _) (Nat.zero_le _) rfl rfl (Nat.le_of_ble_eq_true rfl) dd_Converter_constantOf_30 (fun r2 => ?_)
  refine zx_ifb_eq E (x := r2) 40 dd_Converter_constantOf_33 rfl ?_ ?_
  · refine zx_iload E 4 dd_Converter_constantOf_36 rfl ?_
    refine zx_i2l E dd_Converter_constantOf_38 ?_
    exact zx_lret E rfl rfl dd_Converter_constantOf_39
  refine zx_iinc E 4 (x4 + (1 : Int32)) (lv1 := [(4, .int (x4 + (1 : Int32))), (0, zx_rV (zx_BK B) 23 0), (1, .int x1), (2, .int x2), (3, .int x3)]) dd_Converter_constantOf_40 rfl rfl (by decide) rfl ?_
  refine zx_goto E 12 dd_Converter_constantOf_43 rfl ?_
  refine zx_sub [1, 2, 3, 4, 0] rfl ?_
  exact hk12 x1 x2 x3 (x4 + (1 : Int32)) h
theorem zj_Converter_constantOf_12 {B : zx_B} (E : zx_E B zm_Converter_constantOf)  : ∀ (x1 : Int32) (x2 : Int32) (x3 : Int32) (x4 : Int32) (h : zx_H), zx_X B zm_Converter_constantOf (zx_QM B (fun r => ((some (Value.long r.1) : Option Value), r.2))) (zs_Converter_constantOf_L12  x1 x2 x3 x4 h) 0 0 12 [(0, zx_rV (zx_BK B) 23 0), (1, .int x1), (2, .int x2), (3, .int x3), (4, .int x4)] [] h := by
  unfold zs_Converter_constantOf_L12
  generalize zx_fuel = n
  induction n with
  | zero => intros; exact zx_non
  | succ n ih => intro x1 x2 x3 x4 h; exact zb_Converter_constantOf_12 E  _ ih x1 x2 x3 x4 h
set_option maxHeartbeats 4000000 in
set_option maxRecDepth 20000 in
theorem zt_Converter_constantOf (l : Launch) (K : zx_K) (a1 : Int32) (a2 : Int32) (h : zx_H) (r : (Int64 × zx_H)) (hf : zs_Converter_constantOf a1 a2 h = some r) : zx_MR l zm_Converter_constantOf zy_Converter_constantOf K [zx_rV K 23 0, .int a1, .int a2] h (some (.long r.1)) r.2 := by
  refine zx_ofM (M := zm_Converter_constantOf) (y := zy_Converter_constantOf) (r := r) (as := [zx_rV K 23 0, .int a1, .int a2]) (ρ := (fun r => ((some (Value.long r.1) : Option Value), r.2))) (by decide) rfl hf (Nat.le_of_ble_eq_true rfl) ?_
  intro B hl hK E
  subst hK
  subst hl
  show zx_X B zm_Converter_constantOf _ _ 0 0 0 [(0, zx_rV (zx_BK B) 23 0), (1, .int a1), (2, .int a2)] [] h
  unfold zs_Converter_constantOf
  refine zx_aload_n E 0 dd_Converter_constantOf_0 rfl rfl ?_
  refine zx_getR E 1 0 zd_Converter_types zg_23 Nat.zero_lt_one (zr_Converter_types _) zw_310 dd_Converter_constantOf_1 ?_
  refine zx_iload_n E 1 dd_Converter_constantOf_4 rfl rfl ?_
  refine zx_callV_i (T := zx_TTypes) E [.int a1] (fun rZ eZ => zt_Types_memberCount _ _ a1 h _ eZ) zg_1 Nat.zero_lt_one rfl zc_Converter_157 ⟨by decide, by decide⟩ (Nat.zero_le _) (Nat.zero_le _) rfl rfl (Nat.le_of_ble_eq_true rfl) dd_Converter_constantOf_5 (fun r1 => ?_)
  refine zx_istore_n E (lv1 := [(3, .int r1), (0, zx_rV (zx_BK B) 23 0), (1, .int a1), (2, .int a2)]) dd_Converter_constantOf_8 rfl (by decide) rfl ?_
  refine zx_iconst E (0 : Int32) dd_Converter_constantOf_9 (by decide) ?_
  refine zx_istore E (lv1 := [(4, .int (0 : Int32)), (3, .int r1), (0, zx_rV (zx_BK B) 23 0), (1, .int a1), (2, .int a2)]) dd_Converter_constantOf_10 (by decide) rfl ?_
  refine zx_sub [2, 3, 4, 1, 0] rfl ?_
  exact zj_Converter_constantOf_12 E a1 a2 r1 (0 : Int32) h
set_option maxHeartbeats 4000000 in
set_option maxRecDepth 20000 in
theorem zj_Converter_isTrue_80 {B : zx_B} (E : zx_E B zm_Converter_isTrue) (h : zx_H)   : zx_X B zm_Converter_isTrue (zx_QM B (fun r => ((some (Value.int (zx_b r)) : Option Value), h))) (zs_Converter_isTrue_J80 h  ) 0 0 80 [] [] h := by
  unfold zs_Converter_isTrue_J80
  refine zx_iconst E (0 : Int32) dd_Converter_isTrue_80 (by decide) ?_
  exact zx_zret E false rfl rfl rfl dd_Converter_isTrue_81
set_option maxHeartbeats 4000000 in
set_option maxRecDepth 20000 in
theorem zt_Converter_isTrue (l : Launch) (K : zx_K) (a1 : Int32) (h : zx_H) (r : Bool) (hf : zs_Converter_isTrue a1 h = some r) : zx_MR l zm_Converter_isTrue zy_Converter_isTrue K [zx_rV K 23 0, .int a1] h (some (.int (zx_b r))) h := by
  refine zx_ofM (M := zm_Converter_isTrue) (y := zy_Converter_isTrue) (r := r) (as := [zx_rV K 23 0, .int a1]) (ρ := (fun r => ((some (Value.int (zx_b r)) : Option Value), h))) (by decide) rfl hf (Nat.le_of_ble_eq_true rfl) ?_
  intro B hl hK E
  subst hK
  subst hl
  show zx_X B zm_Converter_isTrue _ _ 0 0 0 [(0, zx_rV (zx_BK B) 23 0), (1, .int a1)] [] h
  unfold zs_Converter_isTrue
  refine zx_aload_n E 0 dd_Converter_isTrue_0 rfl rfl ?_
  refine zx_getR E 7 0 zd_Converter_store zg_23 Nat.zero_lt_one (zr_Converter_store _) zw_311 dd_Converter_isTrue_1 ?_
  refine zx_iload_n E 1 dd_Converter_isTrue_4 rfl rfl ?_
  refine zx_callV_i (T := zx_TStore) E [.int a1] (fun rZ eZ => zt_Store_length _ _ a1 h _ eZ) zg_7 Nat.zero_lt_one rfl zc_Converter_109 ⟨by decide, by decide⟩ (Nat.zero_le _) (Nat.zero_le _) rfl rfl (Nat.le_of_ble_eq_true rfl) dd_Converter_isTrue_5 (fun r1 => ?_)
  refine zx_iconst E (4 : Int32) dd_Converter_isTrue_8 (by decide) ?_
  refine zx_icmp_ne E 80 dd_Converter_isTrue_9 rfl ?_ ?_
  rotate_left
  · refine zx_sub [] rfl ?_
    exact zj_Converter_isTrue_80 E h
  refine zx_aload_n E 0 dd_Converter_isTrue_12 rfl rfl ?_
  refine zx_getR E 7 0 zd_Converter_store zg_23 Nat.zero_lt_one (zr_Converter_store _) zw_311 dd_Converter_isTrue_13 ?_
  refine zx_iload_n E 1 dd_Converter_isTrue_16 rfl rfl ?_
  refine zx_iconst E (0 : Int32) dd_Converter_isTrue_17 (by decide) ?_
  refine zx_callV_l (T := zx_TStore) E [.int a1, .int (0 : Int32)] (fun rZ eZ => zt_Store_cell _ _ a1 (0 : Int32) h _ eZ) zg_7 Nat.zero_lt_one rfl zc_Converter_100 ⟨by decide, by decide⟩ (Nat.zero_le _) (Nat.zero_le _) rfl rfl (Nat.le_of_ble_eq_true rfl) dd_Converter_isTrue_18 (fun r2 => ?_)
  refine zx_ldc2 E (116 : Int64) zw_926 dd_Converter_isTrue_21 ?_
  refine zx_lcmp_ne E 80 dd_Converter_isTrue_24 dd_Converter_isTrue_25 rfl ?_ ?_
  rotate_left
  · refine zx_sub [] rfl ?_
    exact zj_Converter_isTrue_80 E h
  refine zx_aload_n E 0 dd_Converter_isTrue_28 rfl rfl ?_
  refine zx_getR E 7 0 zd_Converter_store zg_23 Nat.zero_lt_one (zr_Converter_store _) zw_311 dd_Converter_isTrue_29 ?_
  refine zx_iload_n E 1 dd_Converter_isTrue_32 rfl rfl ?_
  refine zx_iconst E (1 : Int32) dd_Converter_isTrue_33 (by decide) ?_
  refine zx_callV_l (T := zx_TStore) E [.int a1, .int (1 : Int32)] (fun rZ eZ => zt_Store_cell _ _ a1 (1 : Int32) h _ eZ) zg_7 Nat.zero_lt_one rfl zc_Converter_100 ⟨by decide, by decide⟩ (Nat.zero_le _) (Nat.zero_le _) rfl rfl (Nat.le_of_ble_eq_true rfl) dd_Converter_isTrue_34 (fun r3 => ?_)
  refine zx_ldc2 E (114 : Int64) zw_927 dd_Converter_isTrue_37 ?_
  refine zx_lcmp_ne E 80 dd_Converter_isTrue_40 dd_Converter_isTrue_41 rfl ?_ ?_
  rotate_left
  · refine zx_sub [] rfl ?_
    exact zj_Converter_isTrue_80 E h
  refine zx_aload_n E 0 dd_Converter_isTrue_44 rfl rfl ?_
  refine zx_getR E 7 0 zd_Converter_store zg_23 Nat.zero_lt_one (zr_Converter_store _) zw_311 dd_Converter_isTrue_45 ?_
  refine zx_iload_n E 1 dd_Converter_isTrue_48 rfl rfl ?_
  refine zx_iconst E (2 : Int32) dd_Converter_isTrue_49 (by decide) ?_
  refine zx_callV_l (T := zx_TStore) E [.int a1, .int (2 : Int32)] (fun rZ eZ => zt_Store_cell _ _ a1 (2 : Int32) h _ eZ) zg_7 Nat.zero_lt_one rfl zc_Converter_100 ⟨by decide, by decide⟩ (Nat.zero_le _) (Nat.zero_le _) rfl rfl (Nat.le_of_ble_eq_true rfl) dd_Converter_isTrue_50 (fun r4 => ?_)
  refine zx_ldc2 E (117 : Int64) zw_928 dd_Converter_isTrue_53 ?_
  refine zx_lcmp_ne E 80 dd_Converter_isTrue_56 dd_Converter_isTrue_57 rfl ?_ ?_
  rotate_left
  · refine zx_sub [] rfl ?_
    exact zj_Converter_isTrue_80 E h
  refine zx_aload_n E 0 dd_Converter_isTrue_60 rfl rfl ?_
  refine zx_getR E 7 0 zd_Converter_store zg_23 Nat.zero_lt_one (zr_Converter_store _) zw_311 dd_Converter_isTrue_61 ?_
  refine zx_iload_n E 1 dd_Converter_isTrue_64 rfl rfl ?_
  refine zx_iconst E (3 : Int32) dd_Converter_isTrue_65 (by decide) ?_
  refine zx_callV_l (T := zx_TStore) E [.int a1, .int (3 : Int32)] (fun rZ eZ => zt_Store_cell _ _ a1 (3 : Int32) h _ eZ) zg_7 Nat.zero_lt_one rfl zc_Converter_100 ⟨by decide, by decide⟩ (Nat.zero_le _) (Nat.zero_le _) rfl rfl (Nat.le_of_ble_eq_true rfl) dd_Converter_isTrue_66 (fun r5 => ?_)
  refine zx_ldc2 E (101 : Int64) zw_929 dd_Converter_isTrue_69 ?_
  refine zx_lcmp_ne E 80 dd_Converter_isTrue_72 dd_Converter_isTrue_73 rfl ?_ ?_
  rotate_left
  · refine zx_sub [] rfl ?_
    exact zj_Converter_isTrue_80 E h
  refine zx_iconst E (1 : Int32) dd_Converter_isTrue_76 (by decide) ?_
  refine zx_goto E 81 dd_Converter_isTrue_77 rfl ?_
  exact zx_zret E true rfl rfl rfl dd_Converter_isTrue_81
set_option maxHeartbeats 4000000 in
set_option maxRecDepth 20000 in
theorem zj_Converter_number_148 {B : zx_B} (E : zx_E B zm_Converter_number) (k64 : (Int32 → Int32 → Int32 → Bool → Bool → Int64 → Int32 → zx_H → Option (Int64 × zx_H))) (hk64 : ∀ (x1 : Int32) (x2 : Int32) (x3 : Int32) (x4 : Bool) (x6 : Bool) (x7 : Int64) (x9 : Int32) (h : zx_H), zx_X B zm_Converter_number (zx_QM B (fun r => ((some (Value.long r.1) : Option Value), r.2))) (k64 x1 x2 x3 x4 x6 x7 x9 h) 0 0 64 [(0, zx_rV (zx_BK B) 23 0), (1, .int x1), (2, .int x2), (3, .int x3), (4, .int (zx_b x4)), (6, .int (zx_b x6)), (7, .long x7), (9, .int x9)] [] h) (x1 : Int32) (x2 : Int32) (x3 : Int32) (x4 : Bool) (x6 : Bool) (x9 : Int32) (s0 : Int64) (h : zx_H) : zx_X B zm_Converter_number (zx_QM B (fun r => ((some (Value.long r.1) : Option Value), r.2))) (zs_Converter_number_J148 k64 x1 x2 x3 x4 x6 x9 s0 h) 0 0 148 [(0, zx_rV (zx_BK B) 23 0), (1, .int x1), (2, .int x2), (3, .int x3), (4, .int (zx_b x4)), (6, .int (zx_b x6)), (9, .int x9)] [.long s0] h := by
  unfold zs_Converter_number_J148
  refine zx_lstore E (lv1 := [(7, .long s0), (0, zx_rV (zx_BK B) 23 0), (1, .int x1), (2, .int x2), (3, .int x3), (4, .int (zx_b x4)), (6, .int (zx_b x6)), (9, .int x9)]) dd_Converter_number_148 (by decide) rfl ?_
  refine zx_iinc E 7 (x9 + (1 : Int32)) (lv1 := [(9, .int (x9 + (1 : Int32))), (7, .long s0), (0, zx_rV (zx_BK B) 23 0), (1, .int x1), (2, .int x2), (3, .int x3), (4, .int (zx_b x4)), (6, .int (zx_b x6))]) dd_Converter_number_150 rfl rfl (by decide) rfl ?_
  refine zx_goto E 64 dd_Converter_number_153 rfl ?_
  refine zx_sub [2, 3, 4, 5, 6, 7, 1, 0] rfl ?_
  exact hk64 x1 x2 x3 x4 x6 s0 (x9 + (1 : Int32)) h
set_option maxHeartbeats 4000000 in
set_option maxRecDepth 20000 in
theorem zj_Converter_number_128 {B : zx_B} (E : zx_E B zm_Converter_number) (k64 : (Int32 → Int32 → Int32 → Bool → Bool → Int64 → Int32 → zx_H → Option (Int64 × zx_H))) (hk64 : ∀ (x1 : Int32) (x2 : Int32) (x3 : Int32) (x4 : Bool) (x6 : Bool) (x7 : Int64) (x9 : Int32) (h : zx_H), zx_X B zm_Converter_number (zx_QM B (fun r => ((some (Value.long r.1) : Option Value), r.2))) (k64 x1 x2 x3 x4 x6 x7 x9 h) 0 0 64 [(0, zx_rV (zx_BK B) 23 0), (1, .int x1), (2, .int x2), (3, .int x3), (4, .int (zx_b x4)), (6, .int (zx_b x6)), (7, .long x7), (9, .int x9)] [] h) (x1 : Int32) (x2 : Int32) (x3 : Int32) (x4 : Bool) (x7 : Int64) (x9 : Int32) (x10 : Int64) (s0 : Bool) (h : zx_H) : zx_X B zm_Converter_number (zx_QM B (fun r => ((some (Value.long r.1) : Option Value), r.2))) (zs_Converter_number_J128 k64 x1 x2 x3 x4 x7 x9 x10 s0 h) 0 0 128 [(0, zx_rV (zx_BK B) 23 0), (1, .int x1), (2, .int x2), (3, .int x3), (4, .int (zx_b x4)), (7, .long x7), (9, .int x9), (10, .long x10)] [.int (zx_b s0)] h := by
  unfold zs_Converter_number_J128
  refine zx_istore E (lv1 := [(6, .int (zx_b s0)), (0, zx_rV (zx_BK B) 23 0), (1, .int x1), (2, .int x2), (3, .int x3), (4, .int (zx_b x4)), (7, .long x7), (9, .int x9), (10, .long x10)]) dd_Converter_number_128 (by decide) rfl ?_
  refine zx_iload E 0 dd_Converter_number_130 rfl ?_
  refine zx_ifb_eq E (x := s0) 147 dd_Converter_number_132 rfl ?_ ?_
  rotate_left
  · refine zx_lconst E (0 : Int64) dd_Converter_number_147 rfl ?_
    refine zx_sub [1, 2, 3, 4, 5, 0, 7] rfl ?_
    exact zj_Converter_number_148 E k64 hk64 x1 x2 x3 x4 s0 x9 (0 : Int64) h
  refine zx_lload E 6 dd_Converter_number_135 rfl ?_
  refine zx_ldc2 E (10 : Int64) zw_938 dd_Converter_number_137 ?_
  refine zx_lmul E dd_Converter_number_140 ?_
  refine zx_lload E 8 dd_Converter_number_141 rfl ?_
  refine zx_lsub E dd_Converter_number_143 ?_
  refine zx_goto E 148 dd_Converter_number_144 rfl ?_
  refine zx_sub [1, 2, 3, 4, 5, 0, 7] rfl ?_
  exact zj_Converter_number_148 E k64 hk64 x1 x2 x3 x4 s0 x9 ((x7 * (10 : Int64)) - x10) h
set_option maxHeartbeats 4000000 in
set_option maxRecDepth 20000 in
theorem zj_Converter_number_127 {B : zx_B} (E : zx_E B zm_Converter_number) (k64 : (Int32 → Int32 → Int32 → Bool → Bool → Int64 → Int32 → zx_H → Option (Int64 × zx_H))) (hk64 : ∀ (x1 : Int32) (x2 : Int32) (x3 : Int32) (x4 : Bool) (x6 : Bool) (x7 : Int64) (x9 : Int32) (h : zx_H), zx_X B zm_Converter_number (zx_QM B (fun r => ((some (Value.long r.1) : Option Value), r.2))) (k64 x1 x2 x3 x4 x6 x7 x9 h) 0 0 64 [(0, zx_rV (zx_BK B) 23 0), (1, .int x1), (2, .int x2), (3, .int x3), (4, .int (zx_b x4)), (6, .int (zx_b x6)), (7, .long x7), (9, .int x9)] [] h) (x1 : Int32) (x2 : Int32) (x3 : Int32) (x4 : Bool) (x7 : Int64) (x9 : Int32) (x10 : Int64) (h : zx_H) : zx_X B zm_Converter_number (zx_QM B (fun r => ((some (Value.long r.1) : Option Value), r.2))) (zs_Converter_number_J127 k64 x1 x2 x3 x4 x7 x9 x10 h) 0 0 127 [(0, zx_rV (zx_BK B) 23 0), (1, .int x1), (2, .int x2), (3, .int x3), (4, .int (zx_b x4)), (7, .long x7), (9, .int x9), (10, .long x10)] [] h := by
  unfold zs_Converter_number_J127
  refine zx_iconst E (0 : Int32) dd_Converter_number_127 (by decide) ?_
  exact zj_Converter_number_128 E k64 hk64 x1 x2 x3 x4 x7 x9 x10 false h
set_option maxHeartbeats 4000000 in
set_option maxRecDepth 20000 in
theorem zj_Converter_number_211 {B : zx_B} (E : zx_E B zm_Converter_number)   (h : zx_H) : zx_X B zm_Converter_number (zx_QM B (fun r => ((some (Value.long r.1) : Option Value), r.2))) (zs_Converter_number_J211  h) 0 0 211 [(0, zx_rV (zx_BK B) 23 0)] [] h := by
  unfold zs_Converter_number_J211
  refine zx_aload_n E 0 dd_Converter_number_211 rfl rfl ?_
  refine zx_iconst E (1 : Int32) dd_Converter_number_212 (by decide) ?_
  refine zx_putI E zd_Converter_failed zp_Converter_failed zg_23 Nat.zero_lt_one rfl rfl zw_313 dd_Converter_number_213 ?_
  refine zx_letH (fun h1 => ?_)
  refine zx_lconst E (0 : Int64) dd_Converter_number_216 rfl ?_
  exact zx_lret E rfl rfl dd_Converter_number_217
set_option maxHeartbeats 4000000 in
set_option maxRecDepth 20000 in
theorem zj_Converter_number_195 {B : zx_B} (E : zx_E B zm_Converter_number)  (x2 : Int32) (x6 : Bool) (s0 : Int64) (h : zx_H) : zx_X B zm_Converter_number (zx_QM B (fun r => ((some (Value.long r.1) : Option Value), r.2))) (zs_Converter_number_J195  x2 x6 s0 h) 0 0 195 [(0, zx_rV (zx_BK B) 23 0), (2, .int x2), (6, .int (zx_b x6))] [.long s0] h := by
  unfold zs_Converter_number_J195
  refine zx_lstore E (lv1 := [(9, .long s0), (0, zx_rV (zx_BK B) 23 0), (2, .int x2), (6, .int (zx_b x6))]) dd_Converter_number_195 (by decide) rfl ?_
  refine zx_iload E 3 dd_Converter_number_197 rfl ?_
  refine zx_ifb_eq E (x := x6) 211 dd_Converter_number_199 rfl ?_ ?_
  rotate_left
  · refine zx_sub [1] rfl ?_
    exact zj_Converter_number_211 E h
  refine zx_iload_n E 2 dd_Converter_number_202 rfl rfl ?_
  refine zx_lload E 0 dd_Converter_number_203 rfl ?_
  refine zx_callS_z E [.int x2, .long s0] (fun rZ eZ => zt_Basics_holds _ _ x2 s0 h _ eZ) zc_Converter_133 ⟨by decide, by decide⟩ (Nat.zero_le _) (Nat.zero_le _) rfl rfl (Nat.le_of_ble_eq_true rfl) dd_Converter_number_205 (fun r1 => ?_)
  refine zx_ifb_ne E (x := r1) 218 dd_Converter_number_208 rfl ?_ ?_
  · refine zx_sub [1] rfl ?_
    exact zj_Converter_number_211 E h
  refine zx_lload E 0 dd_Converter_number_218 rfl ?_
  exact zx_lret E rfl rfl dd_Converter_number_220
set_option maxHeartbeats 4000000 in
set_option maxRecDepth 20000 in
theorem zj_Converter_number_180 {B : zx_B} (E : zx_E B zm_Converter_number)  (x2 : Int32) (x4 : Bool) (x7 : Int64) (s0 : Bool) (h : zx_H) : zx_X B zm_Converter_number (zx_QM B (fun r => ((some (Value.long r.1) : Option Value), r.2))) (zs_Converter_number_J180  x2 x4 x7 s0 h) 0 0 180 [(0, zx_rV (zx_BK B) 23 0), (2, .int x2), (4, .int (zx_b x4)), (7, .long x7)] [.int (zx_b s0)] h := by
  unfold zs_Converter_number_J180
  refine zx_istore E (lv1 := [(6, .int (zx_b s0)), (0, zx_rV (zx_BK B) 23 0), (2, .int x2), (4, .int (zx_b x4)), (7, .long x7)]) dd_Converter_number_180 (by decide) rfl ?_
  refine zx_iload E 3 dd_Converter_number_182 rfl ?_
  refine zx_ifb_eq E (x := x4) 192 dd_Converter_number_184 rfl ?_ ?_
  · refine zx_lload E 4 dd_Converter_number_187 rfl ?_
    refine zx_goto E 195 dd_Converter_number_189 rfl ?_
    refine zx_sub [1, 2, 0] rfl ?_
    exact zj_Converter_number_195 E x2 s0 x7 h
  refine zx_lload E 4 dd_Converter_number_192 rfl ?_
  refine zx_lneg E dd_Converter_number_194 ?_
  refine zx_sub [1, 2, 0] rfl ?_
  exact zj_Converter_number_195 E x2 s0 (-x7) h
set_option maxHeartbeats 4000000 in
set_option maxRecDepth 20000 in
theorem zj_Converter_number_175 {B : zx_B} (E : zx_E B zm_Converter_number)  (x2 : Int32) (x4 : Bool) (x7 : Int64) (h : zx_H) : zx_X B zm_Converter_number (zx_QM B (fun r => ((some (Value.long r.1) : Option Value), r.2))) (zs_Converter_number_J175  x2 x4 x7 h) 0 0 175 [(0, zx_rV (zx_BK B) 23 0), (2, .int x2), (4, .int (zx_b x4)), (7, .long x7)] [] h := by
  unfold zs_Converter_number_J175
  refine zx_iconst E (1 : Int32) dd_Converter_number_175 (by decide) ?_
  refine zx_goto E 180 dd_Converter_number_176 rfl ?_
  exact zj_Converter_number_180 E x2 x4 x7 true h
set_option maxHeartbeats 4000000 in
set_option maxRecDepth 20000 in
theorem zj_Converter_number_179 {B : zx_B} (E : zx_E B zm_Converter_number)  (x2 : Int32) (x4 : Bool) (x7 : Int64) (h : zx_H) : zx_X B zm_Converter_number (zx_QM B (fun r => ((some (Value.long r.1) : Option Value), r.2))) (zs_Converter_number_J179  x2 x4 x7 h) 0 0 179 [(0, zx_rV (zx_BK B) 23 0), (2, .int x2), (4, .int (zx_b x4)), (7, .long x7)] [] h := by
  unfold zs_Converter_number_J179
  refine zx_iconst E (0 : Int32) dd_Converter_number_179 (by decide) ?_
  exact zj_Converter_number_180 E x2 x4 x7 false h
set_option maxHeartbeats 4000000 in
set_option maxRecDepth 20000 in
theorem zj_Converter_number_156 {B : zx_B} (E : zx_E B zm_Converter_number)  (x2 : Int32) (x4 : Bool) (x6 : Bool) (x7 : Int64) (h : zx_H) : zx_X B zm_Converter_number (zx_QM B (fun r => ((some (Value.long r.1) : Option Value), r.2))) (zs_Converter_number_J156  x2 x4 x6 x7 h) 0 0 156 [(0, zx_rV (zx_BK B) 23 0), (2, .int x2), (4, .int (zx_b x4)), (6, .int (zx_b x6)), (7, .long x7)] [] h := by
  unfold zs_Converter_number_J156
  refine zx_iload E 3 dd_Converter_number_156 rfl ?_
  refine zx_ifb_eq E (x := x6) 179 dd_Converter_number_158 rfl ?_ ?_
  rotate_left
  · refine zx_sub [0, 1, 2, 4] rfl ?_
    exact zj_Converter_number_179 E x2 x4 x7 h
  refine zx_iload E 2 dd_Converter_number_161 rfl ?_
  refine zx_ifb_ne E (x := x4) 175 dd_Converter_number_163 rfl ?_ ?_
  rotate_left
  · refine zx_sub [0, 1, 2, 4] rfl ?_
    exact zj_Converter_number_175 E x2 x4 x7 h
  refine zx_lload E 4 dd_Converter_number_166 rfl ?_
  refine zx_ldc2 E (-9223372036854775808 : Int64) zw_937 dd_Converter_number_168 ?_
  refine zx_lcmp_eq E 179 dd_Converter_number_171 dd_Converter_number_172 rfl ?_ ?_
  · refine zx_sub [0, 1, 2, 4] rfl ?_
    exact zj_Converter_number_175 E x2 x4 x7 h
  refine zx_sub [0, 1, 2, 4] rfl ?_
  exact zj_Converter_number_179 E x2 x4 x7 h
set_option maxHeartbeats 4000000 in
set_option maxRecDepth 20000 in
theorem zb_Converter_number_64 {B : zx_B} (E : zx_E B zm_Converter_number)  (k64 : (Int32 → Int32 → Int32 → Bool → Bool → Int64 → Int32 → zx_H → Option (Int64 × zx_H))) (hk64 : ∀ (x1 : Int32) (x2 : Int32) (x3 : Int32) (x4 : Bool) (x6 : Bool) (x7 : Int64) (x9 : Int32) (h : zx_H), zx_X B zm_Converter_number (zx_QM B (fun r => ((some (Value.long r.1) : Option Value), r.2))) (k64 x1 x2 x3 x4 x6 x7 x9 h) 0 0 64 [(0, zx_rV (zx_BK B) 23 0), (1, .int x1), (2, .int x2), (3, .int x3), (4, .int (zx_b x4)), (6, .int (zx_b x6)), (7, .long x7), (9, .int x9)] [] h) (x1 : Int32) (x2 : Int32) (x3 : Int32) (x4 : Bool) (x6 : Bool) (x7 : Int64) (x9 : Int32) (h : zx_H) : zx_X B zm_Converter_number (zx_QM B (fun r => ((some (Value.long r.1) : Option Value), r.2))) (zs_Converter_number_L64_body  k64 x1 x2 x3 x4 x6 x7 x9 h) 0 0 64 [(0, zx_rV (zx_BK B) 23 0), (1, .int x1), (2, .int x2), (3, .int x3), (4, .int (zx_b x4)), (6, .int (zx_b x6)), (7, .long x7), (9, .int x9)] [] h := by
  unfold zs_Converter_number_L64_body
  refine zx_iload E 5 dd_Converter_number_64 rfl ?_
  refine zx_ifb_eq E (x := x6) 156 dd_Converter_number_66 rfl ?_ ?_
  rotate_left
  · refine zx_sub [0, 2, 4, 5, 6] rfl ?_
    exact zj_Converter_number_156 E x2 x4 x6 x7 h
  refine zx_iload E 7 dd_Converter_number_69 rfl ?_
  refine zx_iload_n E 3 dd_Converter_number_71 rfl rfl ?_
  refine zx_icmp_ge E 156 dd_Converter_number_72 rfl ?_ ?_
  rotate_left
  · refine zx_sub [0, 2, 4, 5, 6] rfl ?_
    exact zj_Converter_number_156 E x2 x4 x6 x7 h
  refine zx_aload_n E 0 dd_Converter_number_75 rfl rfl ?_
  refine zx_getR E 7 0 zd_Converter_store zg_23 Nat.zero_lt_one (zr_Converter_store _) zw_311 dd_Converter_number_76 ?_
  refine zx_iload_n E 1 dd_Converter_number_79 rfl rfl ?_
  refine zx_iload E 7 dd_Converter_number_80 rfl ?_
  refine zx_callV_l (T := zx_TStore) E [.int x1, .int x9] (fun rZ eZ => zt_Store_cell _ _ x1 x9 h _ eZ) zg_7 Nat.zero_lt_one rfl zc_Converter_100 ⟨by decide, by decide⟩ (Nat.zero_le _) (Nat.zero_le _) rfl rfl (Nat.le_of_ble_eq_true rfl) dd_Converter_number_82 (fun r1 => ?_)
  refine zx_ldc2 E (48 : Int64) zw_935 dd_Converter_number_85 ?_
  refine zx_lsub E dd_Converter_number_88 ?_
  refine zx_letl (fun y2 => ?_)
  refine zx_lstore E (lv1 := [(10, .long y2), (0, zx_rV (zx_BK B) 23 0), (1, .int x1), (2, .int x2), (3, .int x3), (4, .int (zx_b x4)), (6, .int (zx_b x6)), (7, .long x7), (9, .int x9)]) dd_Converter_number_89 (by decide) rfl ?_
  refine zx_lload E 0 dd_Converter_number_91 rfl ?_
  refine zx_lconst E (0 : Int64) dd_Converter_number_93 rfl ?_
  refine zx_lcmp_lt E 127 dd_Converter_number_94 dd_Converter_number_95 rfl ?_ ?_
  rotate_left
  · refine zx_sub [1, 2, 3, 4, 5, 7, 8, 0] rfl ?_
    exact zj_Converter_number_127 E k64 hk64 x1 x2 x3 x4 x7 x9 y2 h
  refine zx_lload E 0 dd_Converter_number_98 rfl ?_
  refine zx_ldc2 E (9 : Int64) zw_936 dd_Converter_number_100 ?_
  refine zx_lcmp_gt E 127 dd_Converter_number_103 dd_Converter_number_104 rfl ?_ ?_
  rotate_left
  · refine zx_sub [1, 2, 3, 4, 5, 7, 8, 0] rfl ?_
    exact zj_Converter_number_127 E k64 hk64 x1 x2 x3 x4 x7 x9 y2 h
  refine zx_lload E 7 dd_Converter_number_107 rfl ?_
  refine zx_ldc2 E (-9223372036854775808 : Int64) zw_937 dd_Converter_number_109 ?_
  refine zx_lload E 0 dd_Converter_number_112 rfl ?_
  refine zx_ladd E dd_Converter_number_114 ?_
  refine zx_ldc2 E (10 : Int64) zw_938 dd_Converter_number_115 ?_
  refine zx_ldivN E dd_Converter_number_118 (by decide) ?_
  refine zx_lcmp_lt E 127 dd_Converter_number_119 dd_Converter_number_120 rfl ?_ ?_
  rotate_left
  · refine zx_sub [1, 2, 3, 4, 5, 7, 8, 0] rfl ?_
    exact zj_Converter_number_127 E k64 hk64 x1 x2 x3 x4 x7 x9 y2 h
  refine zx_iconst E (1 : Int32) dd_Converter_number_123 (by decide) ?_
  refine zx_goto E 128 dd_Converter_number_124 rfl ?_
  refine zx_sub [1, 2, 3, 4, 5, 7, 8, 0] rfl ?_
  exact zj_Converter_number_128 E k64 hk64 x1 x2 x3 x4 x7 x9 y2 true h
theorem zj_Converter_number_64 {B : zx_B} (E : zx_E B zm_Converter_number)  : ∀ (x1 : Int32) (x2 : Int32) (x3 : Int32) (x4 : Bool) (x6 : Bool) (x7 : Int64) (x9 : Int32) (h : zx_H), zx_X B zm_Converter_number (zx_QM B (fun r => ((some (Value.long r.1) : Option Value), r.2))) (zs_Converter_number_L64  x1 x2 x3 x4 x6 x7 x9 h) 0 0 64 [(0, zx_rV (zx_BK B) 23 0), (1, .int x1), (2, .int x2), (3, .int x3), (4, .int (zx_b x4)), (6, .int (zx_b x6)), (7, .long x7), (9, .int x9)] [] h := by
  unfold zs_Converter_number_L64
  generalize zx_fuel = n
  induction n with
  | zero => intros; exact zx_non
  | succ n ih => intro x1 x2 x3 x4 x6 x7 x9 h; exact zb_Converter_number_64 E  _ ih x1 x2 x3 x4 x6 x7 x9 h
set_option maxHeartbeats 4000000 in
set_option maxRecDepth 20000 in
theorem zj_Converter_number_55 {B : zx_B} (E : zx_E B zm_Converter_number)  (x1 : Int32) (x2 : Int32) (x3 : Int32) (x4 : Bool) (x5 : Bool) (s0 : Bool) (h : zx_H) : zx_X B zm_Converter_number (zx_QM B (fun r => ((some (Value.long r.1) : Option Value), r.2))) (zs_Converter_number_J55  x1 x2 x3 x4 x5 s0 h) 0 0 55 [(0, zx_rV (zx_BK B) 23 0), (1, .int x1), (2, .int x2), (3, .int x3), (4, .int (zx_b x4)), (5, .int (zx_b x5))] [.int (zx_b s0)] h := by
  unfold zs_Converter_number_J55
  refine zx_istore E (lv1 := [(6, .int (zx_b s0)), (0, zx_rV (zx_BK B) 23 0), (1, .int x1), (2, .int x2), (3, .int x3), (4, .int (zx_b x4)), (5, .int (zx_b x5))]) dd_Converter_number_55 (by decide) rfl ?_
  refine zx_lconst E (0 : Int64) dd_Converter_number_57 rfl ?_
  refine zx_lstore E (lv1 := [(7, .long (0 : Int64)), (6, .int (zx_b s0)), (0, zx_rV (zx_BK B) 23 0), (1, .int x1), (2, .int x2), (3, .int x3), (4, .int (zx_b x4)), (5, .int (zx_b x5))]) dd_Converter_number_58 (by decide) rfl ?_
  refine zx_iload E 7 dd_Converter_number_60 rfl ?_
  refine zx_istore E (lv1 := [(9, .int (zx_b x5)), (7, .long (0 : Int64)), (6, .int (zx_b s0)), (0, zx_rV (zx_BK B) 23 0), (1, .int x1), (2, .int x2), (3, .int x3), (4, .int (zx_b x4)), (5, .int (zx_b x5))]) dd_Converter_number_62 (by decide) rfl ?_
  refine zx_sub [3, 4, 5, 6, 7, 2, 1, 0] rfl ?_
  exact zj_Converter_number_64 E x1 x2 x3 x4 s0 (0 : Int64) (zx_b x5) h
set_option maxHeartbeats 4000000 in
set_option maxRecDepth 20000 in
theorem zj_Converter_number_42 {B : zx_B} (E : zx_E B zm_Converter_number)  (x1 : Int32) (x2 : Int32) (x3 : Int32) (x4 : Bool) (s0 : Bool) (h : zx_H) : zx_X B zm_Converter_number (zx_QM B (fun r => ((some (Value.long r.1) : Option Value), r.2))) (zs_Converter_number_J42  x1 x2 x3 x4 s0 h) 0 0 42 [(0, zx_rV (zx_BK B) 23 0), (1, .int x1), (2, .int x2), (3, .int x3), (4, .int (zx_b x4))] [.int (zx_b s0)] h := by
  unfold zs_Converter_number_J42
  refine zx_istore E (lv1 := [(5, .int (zx_b s0)), (0, zx_rV (zx_BK B) 23 0), (1, .int x1), (2, .int x2), (3, .int x3), (4, .int (zx_b x4))]) dd_Converter_number_42 (by decide) rfl ?_
  refine zx_iload E 0 dd_Converter_number_44 rfl ?_
  refine zx_iload_n E 4 dd_Converter_number_46 rfl rfl ?_
  refine zx_icmp_ge E 54 dd_Converter_number_47 rfl ?_ ?_
  rotate_left
  · refine zx_iconst E (0 : Int32) dd_Converter_number_54 (by decide) ?_
    refine zx_sub [1, 2, 3, 4, 5, 0] rfl ?_
    exact zj_Converter_number_55 E x1 x2 x3 x4 s0 false h
  refine zx_iconst E (1 : Int32) dd_Converter_number_50 (by decide) ?_
  refine zx_goto E 55 dd_Converter_number_51 rfl ?_
  refine zx_sub [1, 2, 3, 4, 5, 0] rfl ?_
  exact zj_Converter_number_55 E x1 x2 x3 x4 s0 true h
set_option maxHeartbeats 4000000 in
set_option maxRecDepth 20000 in
theorem zj_Converter_number_30 {B : zx_B} (E : zx_E B zm_Converter_number)  (x1 : Int32) (x2 : Int32) (x3 : Int32) (s0 : Bool) (h : zx_H) : zx_X B zm_Converter_number (zx_QM B (fun r => ((some (Value.long r.1) : Option Value), r.2))) (zs_Converter_number_J30  x1 x2 x3 s0 h) 0 0 30 [(0, zx_rV (zx_BK B) 23 0), (1, .int x1), (2, .int x2), (3, .int x3)] [.int (zx_b s0)] h := by
  unfold zs_Converter_number_J30
  refine zx_istore E (lv1 := [(4, .int (zx_b s0)), (0, zx_rV (zx_BK B) 23 0), (1, .int x1), (2, .int x2), (3, .int x3)]) dd_Converter_number_30 (by decide) rfl ?_
  refine zx_iload E 0 dd_Converter_number_32 rfl ?_
  refine zx_ifb_eq E (x := s0) 41 dd_Converter_number_34 rfl ?_ ?_
  rotate_left
  · refine zx_iconst E (0 : Int32) dd_Converter_number_41 (by decide) ?_
    refine zx_sub [1, 2, 3, 4, 0] rfl ?_
    exact zj_Converter_number_42 E x1 x2 x3 s0 false h
  refine zx_iconst E (1 : Int32) dd_Converter_number_37 (by decide) ?_
  refine zx_goto E 42 dd_Converter_number_38 rfl ?_
  refine zx_sub [1, 2, 3, 4, 0] rfl ?_
  exact zj_Converter_number_42 E x1 x2 x3 s0 true h
set_option maxHeartbeats 4000000 in
set_option maxRecDepth 20000 in
theorem zt_Converter_number (l : Launch) (K : zx_K) (a1 : Int32) (a2 : Int32) (h : zx_H) (r : (Int64 × zx_H)) (hf : zs_Converter_number a1 a2 h = some r) : zx_MR l zm_Converter_number zy_Converter_number K [zx_rV K 23 0, .int a1, .int a2] h (some (.long r.1)) r.2 := by
  refine zx_ofM (M := zm_Converter_number) (y := zy_Converter_number) (r := r) (as := [zx_rV K 23 0, .int a1, .int a2]) (ρ := (fun r => ((some (Value.long r.1) : Option Value), r.2))) (by decide) rfl hf (Nat.le_of_ble_eq_true rfl) ?_
  intro B hl hK E
  subst hK
  subst hl
  show zx_X B zm_Converter_number _ _ 0 0 0 [(0, zx_rV (zx_BK B) 23 0), (1, .int a1), (2, .int a2)] [] h
  unfold zs_Converter_number
  refine zx_aload_n E 0 dd_Converter_number_0 rfl rfl ?_
  refine zx_getR E 7 0 zd_Converter_store zg_23 Nat.zero_lt_one (zr_Converter_store _) zw_311 dd_Converter_number_1 ?_
  refine zx_iload_n E 1 dd_Converter_number_4 rfl rfl ?_
  refine zx_callV_i (T := zx_TStore) E [.int a1] (fun rZ eZ => zt_Store_length _ _ a1 h _ eZ) zg_7 Nat.zero_lt_one rfl zc_Converter_109 ⟨by decide, by decide⟩ (Nat.zero_le _) (Nat.zero_le _) rfl rfl (Nat.le_of_ble_eq_true rfl) dd_Converter_number_5 (fun r1 => ?_)
  refine zx_istore_n E (lv1 := [(3, .int r1), (0, zx_rV (zx_BK B) 23 0), (1, .int a1), (2, .int a2)]) dd_Converter_number_8 rfl (by decide) rfl ?_
  refine zx_aload_n E 1 dd_Converter_number_9 rfl rfl ?_
  refine zx_getR E 7 0 zd_Converter_store zg_23 Nat.zero_lt_one (zr_Converter_store _) zw_311 dd_Converter_number_10 ?_
  refine zx_iload_n E 2 dd_Converter_number_13 rfl rfl ?_
  refine zx_iconst E (0 : Int32) dd_Converter_number_14 (by decide) ?_
  refine zx_callV_l (T := zx_TStore) E [.int a1, .int (0 : Int32)] (fun rZ eZ => zt_Store_cell _ _ a1 (0 : Int32) h _ eZ) zg_7 Nat.zero_lt_one rfl zc_Converter_100 ⟨by decide, by decide⟩ (Nat.zero_le _) (Nat.zero_le _) rfl rfl (Nat.le_of_ble_eq_true rfl) dd_Converter_number_15 (fun r2 => ?_)
  refine zx_ldc2 E (45 : Int64) zw_934 dd_Converter_number_18 ?_
  refine zx_lcmp_ne E 29 dd_Converter_number_21 dd_Converter_number_22 rfl ?_ ?_
  rotate_left
  · refine zx_iconst E (0 : Int32) dd_Converter_number_29 (by decide) ?_
    refine zx_sub [1, 2, 3, 0] rfl ?_
    exact zj_Converter_number_30 E a1 a2 r1 false h
  refine zx_iconst E (1 : Int32) dd_Converter_number_25 (by decide) ?_
  refine zx_goto E 30 dd_Converter_number_26 rfl ?_
  refine zx_sub [1, 2, 3, 0] rfl ?_
  exact zj_Converter_number_30 E a1 a2 r1 true h
set_option maxHeartbeats 4000000 in
set_option maxRecDepth 20000 in
theorem zj_Converter_plain_79 {B : zx_B} (E : zx_E B zm_Converter_plain)  (x5 : Int32) (s1 : Bool) (h : zx_H) : zx_X B zm_Converter_plain (zx_QM B (fun r => ((some (Value.long r.1) : Option Value), r.2))) (zs_Converter_plain_J79  x5 s1 h) 0 0 79 [(0, zx_rV (zx_BK B) 23 0), (5, .int x5)] [.int (zx_b s1), zx_rV (zx_BK B) 23 0] h := by
  unfold zs_Converter_plain_J79
  refine zx_putI E zd_Converter_failed zp_Converter_failed zg_23 Nat.zero_lt_one (zx_nb _) (zx_fb _) zw_313 dd_Converter_plain_79 ?_
  refine zx_letH (fun h1 => ?_)
  refine zx_aload_n E 0 dd_Converter_plain_82 rfl rfl ?_
  refine zx_getR E 7 0 zd_Converter_store zg_23 Nat.zero_lt_one (zr_Converter_store _) zw_311 dd_Converter_plain_83 ?_
  refine zx_iload E 1 dd_Converter_plain_86 rfl ?_
  refine zx_iconst E (0 : Int32) dd_Converter_plain_88 (by decide) ?_
  refine zx_callV_l (T := zx_TStore) E [.int x5, .int (0 : Int32)] (fun rZ eZ => zt_Store_cell _ _ x5 (0 : Int32) h1 _ eZ) zg_7 Nat.zero_lt_one rfl zc_Converter_100 ⟨by decide, by decide⟩ (Nat.zero_le _) (Nat.zero_le _) rfl rfl (Nat.le_of_ble_eq_true rfl) dd_Converter_plain_89 (fun r2 => ?_)
  exact zx_lret E rfl rfl dd_Converter_plain_92
set_option maxHeartbeats 4000000 in
set_option maxRecDepth 20000 in
theorem zj_Converter_plain_74 {B : zx_B} (E : zx_E B zm_Converter_plain)  (x5 : Int32) (h : zx_H) : zx_X B zm_Converter_plain (zx_QM B (fun r => ((some (Value.long r.1) : Option Value), r.2))) (zs_Converter_plain_J74  x5 h) 0 0 74 [(0, zx_rV (zx_BK B) 23 0), (5, .int x5)] [zx_rV (zx_BK B) 23 0] h := by
  unfold zs_Converter_plain_J74
  refine zx_iconst E (1 : Int32) dd_Converter_plain_74 (by decide) ?_
  refine zx_goto E 79 dd_Converter_plain_75 rfl ?_
  exact zj_Converter_plain_79 E x5 true h
set_option maxHeartbeats 4000000 in
set_option maxRecDepth 20000 in
theorem zt_Converter_plain (l : Launch) (K : zx_K) (a1 : Int32) (a2 : Int64) (a4 : Int32) (h : zx_H) (r : (Int64 × zx_H)) (hf : zs_Converter_plain a1 a2 a4 h = some r) : zx_MR l zm_Converter_plain zy_Converter_plain K [zx_rV K 23 0, .int a1, .long a2, .int a4] h (some (.long r.1)) r.2 := by
  refine zx_ofM (M := zm_Converter_plain) (y := zy_Converter_plain) (r := r) (as := [zx_rV K 23 0, .int a1, .long a2, .int a4]) (ρ := (fun r => ((some (Value.long r.1) : Option Value), r.2))) (by decide) rfl hf (Nat.le_of_ble_eq_true rfl) ?_
  intro B hl hK E
  subst hK
  subst hl
  show zx_X B zm_Converter_plain _ _ 0 0 0 [(0, zx_rV (zx_BK B) 23 0), (1, .int a1), (2, .long a2), (4, .int a4)] [] h
  unfold zs_Converter_plain
  refine zx_iload_n E 1 dd_Converter_plain_0 rfl rfl ?_
  refine zx_bipush E (14 : Int32) dd_Converter_plain_1 (by decide) ?_
  refine zx_icmp_eq E 22 dd_Converter_plain_3 rfl ?_ ?_
  · refine zx_iload_n E 1 dd_Converter_plain_6 rfl rfl ?_
    refine zx_callS_i E [.int a1] (fun rZ eZ => zt_Basics_kindOf _ _ a1 h _ eZ) zc_Converter_47 ⟨by decide, by decide⟩ (Nat.zero_le _) (Nat.zero_le _) rfl rfl (Nat.le_of_ble_eq_true rfl) dd_Converter_plain_7 (fun r1 => ?_)
    refine zx_iload E 3 dd_Converter_plain_10 rfl ?_
    refine zx_aload_n E 0 dd_Converter_plain_12 rfl rfl ?_
    refine zx_iload_n E 1 dd_Converter_plain_13 rfl rfl ?_
    refine zx_lload_n E 2 dd_Converter_plain_14 rfl rfl ?_
    refine zx_callV_l (T := zx_TConverter) E [.int a1, .long a2] (fun rZ eZ => zt_Converter_unboxed _ _ a1 a2 h _ eZ) zg_23 Nat.zero_lt_one rfl zc_Converter_50 ⟨by decide, by decide⟩ (Nat.zero_le _) (Nat.zero_le _) rfl rfl (Nat.le_of_ble_eq_true rfl) dd_Converter_plain_15 (fun r2 => ?_)
    refine zx_callS_l E [.int r1, .int a4, .long r2] (fun rZ eZ => zt_Basics_cast _ _ r1 a4 r2 h _ eZ) zc_Converter_84 ⟨by decide, by decide⟩ (Nat.zero_le _) (Nat.zero_le _) rfl rfl (Nat.le_of_ble_eq_true rfl) dd_Converter_plain_18 (fun r3 => ?_)
    exact zx_lret E rfl rfl dd_Converter_plain_21
  refine zx_lload_n E 2 dd_Converter_plain_22 rfl rfl ?_
  refine zx_l2i E dd_Converter_plain_23 ?_
  refine zx_leti (fun y4 => ?_)
  refine zx_istore E (lv1 := [(5, .int y4), (0, zx_rV (zx_BK B) 23 0), (1, .int a1), (2, .long a2), (4, .int a4)]) dd_Converter_plain_24 (by decide) rfl ?_
  refine zx_iload E 4 dd_Converter_plain_26 rfl ?_
  refine zx_iconst E (5 : Int32) dd_Converter_plain_28 (by decide) ?_
  refine zx_icmp_ne E 47 dd_Converter_plain_29 rfl ?_ ?_
  · refine zx_aload_n E 1 dd_Converter_plain_32 rfl rfl ?_
    refine zx_iload E 0 dd_Converter_plain_33 rfl ?_
    refine zx_callV_z (T := zx_TConverter) E [.int y4] (fun rZ eZ => zt_Converter_isTrue _ _ y4 h _ eZ) zg_23 Nat.zero_lt_one rfl zc_Converter_106 ⟨by decide, by decide⟩ (Nat.zero_le _) (Nat.zero_le _) rfl rfl (Nat.le_of_ble_eq_true rfl) dd_Converter_plain_35 (fun r5 => ?_)
    refine zx_ifb_eq E (x := r5) 45 dd_Converter_plain_38 rfl ?_ ?_
    rotate_left
    · refine zx_lconst E (0 : Int64) dd_Converter_plain_45 rfl ?_
      exact zx_lret E rfl rfl dd_Converter_plain_46
    refine zx_lconst E (1 : Int64) dd_Converter_plain_41 rfl ?_
    refine zx_goto E 46 dd_Converter_plain_42 rfl ?_
    exact zx_lret E rfl rfl dd_Converter_plain_46
  refine zx_iload E 4 dd_Converter_plain_47 rfl ?_
  refine zx_iconst E (2 : Int32) dd_Converter_plain_49 (by decide) ?_
  refine zx_icmp_ne E 93 dd_Converter_plain_50 rfl ?_ ?_
  rotate_left
  · refine zx_aload_n E 1 dd_Converter_plain_93 rfl rfl ?_
    refine zx_iload E 0 dd_Converter_plain_94 rfl ?_
    refine zx_iload E 4 dd_Converter_plain_96 rfl ?_
    refine zx_callV_lw (T := zx_TConverter) E [.int y4, .int a4] (fun rZ eZ => zt_Converter_number _ _ y4 a4 h _ eZ) zg_23 Nat.zero_lt_one rfl zc_Converter_112 ⟨by decide, by decide⟩ (Nat.zero_le _) (Nat.zero_le _) rfl rfl (Nat.le_of_ble_eq_true rfl) dd_Converter_plain_98 (fun r7 => ?_)
    exact zx_lret E rfl rfl dd_Converter_plain_101
  refine zx_aload_n E 1 dd_Converter_plain_53 rfl rfl ?_
  refine zx_aload_n E 1 dd_Converter_plain_54 rfl rfl ?_
  refine zx_getI E zd_Converter_failed zg_23 Nat.zero_lt_one zw_313 dd_Converter_plain_55 ?_
  refine zx_if_ne E 74 dd_Converter_plain_58 rfl ?_ ?_
  rotate_left
  · refine zx_sub [1, 0] rfl ?_
    exact zj_Converter_plain_74 E y4 h
  refine zx_aload_n E 1 dd_Converter_plain_61 rfl rfl ?_
  refine zx_getR E 7 0 zd_Converter_store zg_23 Nat.zero_lt_one (zr_Converter_store _) zw_311 dd_Converter_plain_62 ?_
  refine zx_iload E 0 dd_Converter_plain_65 rfl ?_
  refine zx_callV_i (T := zx_TStore) E [.int y4] (fun rZ eZ => zt_Store_length _ _ y4 h _ eZ) zg_7 Nat.zero_lt_one rfl zc_Converter_109 ⟨by decide, by decide⟩ (Nat.zero_le _) (Nat.zero_le _) rfl rfl (Nat.le_of_ble_eq_true rfl) dd_Converter_plain_67 (fun r6 => ?_)
  refine zx_iconst E (1 : Int32) dd_Converter_plain_70 (by decide) ?_
  refine zx_icmp_eq E 78 dd_Converter_plain_71 rfl ?_ ?_
  · refine zx_sub [1, 0] rfl ?_
    exact zj_Converter_plain_74 E y4 h
  refine zx_iconst E (0 : Int32) dd_Converter_plain_78 (by decide) ?_
  refine zx_sub [1, 0] rfl ?_
  exact zj_Converter_plain_79 E y4 false h
set_option maxHeartbeats 4000000 in
set_option maxRecDepth 20000 in
theorem zt_Converter_boxed (l : Launch) (K : zx_K) (a1 : Int32) (a2 : Int64) (h : zx_H) (r : (Int64 × zx_H)) (hf : zs_Converter_boxed a1 a2 h = some r) : zx_MR l zm_Converter_boxed zy_Converter_boxed K [zx_rV K 23 0, .int a1, .long a2] h (some (.long r.1)) r.2 := by
  refine zx_ofM (M := zm_Converter_boxed) (y := zy_Converter_boxed) (r := r) (as := [zx_rV K 23 0, .int a1, .long a2]) (ρ := (fun r => ((some (Value.long r.1) : Option Value), r.2))) (by decide) rfl hf (Nat.le_of_ble_eq_true rfl) ?_
  intro B hl hK E
  subst hK
  subst hl
  show zx_X B zm_Converter_boxed _ _ 0 0 0 [(0, zx_rV (zx_BK B) 23 0), (1, .int a1), (2, .long a2)] [] h
  unfold zs_Converter_boxed
  refine zx_iload_n E 1 dd_Converter_boxed_0 rfl rfl ?_
  refine zx_callS_z E [.int a1] (fun rZ eZ => zt_Basics_isPrimitive _ _ a1 h _ eZ) zc_Converter_97 ⟨by decide, by decide⟩ (Nat.zero_le _) (Nat.zero_le _) rfl rfl (Nat.le_of_ble_eq_true rfl) dd_Converter_boxed_1 (fun r1 => ?_)
  refine zx_ifb_eq E (x := r1) 9 dd_Converter_boxed_4 rfl ?_ ?_
  · refine zx_lload_n E 2 dd_Converter_boxed_7 rfl rfl ?_
    exact zx_lret E rfl rfl dd_Converter_boxed_8
  refine zx_aload_n E 0 dd_Converter_boxed_9 rfl rfl ?_
  refine zx_iload_n E 1 dd_Converter_boxed_10 rfl rfl ?_
  refine zx_callV_iw (T := zx_TConverter) E [.int a1] (fun rZ eZ => zt_Converter_created _ _ a1 h _ eZ) zg_23 Nat.zero_lt_one rfl zc_Converter_29 ⟨by decide, by decide⟩ (Nat.zero_le _) (Nat.zero_le _) rfl rfl (Nat.le_of_ble_eq_true rfl) dd_Converter_boxed_11 (fun r2 => ?_)
  refine zx_istore E (lv1 := [(4, .int r2.1), (0, zx_rV (zx_BK B) 23 0), (1, .int a1), (2, .long a2)]) dd_Converter_boxed_14 (by decide) rfl ?_
  refine zx_aload_n E 1 dd_Converter_boxed_16 rfl rfl ?_
  refine zx_getR E 7 0 zd_Converter_store zg_23 Nat.zero_lt_one (zr_Converter_store _) zw_311 dd_Converter_boxed_17 ?_
  refine zx_iload E 0 dd_Converter_boxed_20 rfl ?_
  refine zx_lload_n E 3 dd_Converter_boxed_22 rfl rfl ?_
  refine zx_callV_zw (T := zx_TStore) E [.int r2.1, .long a2] (fun rZ eZ => zt_Store_append _ _ r2.1 a2 r2.2 _ eZ) zg_7 Nat.zero_lt_one rfl zc_Converter_103 ⟨by decide, by decide⟩ (Nat.zero_le _) (Nat.zero_le _) rfl rfl (Nat.le_of_ble_eq_true rfl) dd_Converter_boxed_23 (fun r3 => ?_)
  refine zx_pop E dd_Converter_boxed_26 rfl ?_
  refine zx_iload E 0 dd_Converter_boxed_27 rfl ?_
  refine zx_i2l E dd_Converter_boxed_29 ?_
  exact zx_lret E rfl rfl dd_Converter_boxed_30
set_option maxHeartbeats 4000000 in
set_option maxRecDepth 20000 in
theorem zt_Converter_byTable (l : Launch) (K : zx_K) (a1 : Int32) (a2 : Int32) (a3 : Int64) (h : zx_H) (r : (Int64 × zx_H)) (hf : zs_Converter_byTable a1 a2 a3 h = some r) : zx_MR l zm_Converter_byTable zy_Converter_byTable K [zx_rV K 23 0, .int a1, .int a2, .long a3] h (some (.long r.1)) r.2 := by
  refine zx_ofM (M := zm_Converter_byTable) (y := zy_Converter_byTable) (r := r) (as := [zx_rV K 23 0, .int a1, .int a2, .long a3]) (ρ := (fun r => ((some (Value.long r.1) : Option Value), r.2))) (by decide) rfl hf (Nat.le_of_ble_eq_true rfl) ?_
  intro B hl hK E
  subst hK
  subst hl
  show zx_X B zm_Converter_byTable _ _ 0 0 0 [(0, zx_rV (zx_BK B) 23 0), (1, .int a1), (2, .int a2), (3, .long a3)] [] h
  unfold zs_Converter_byTable
  refine zx_iload_n E 1 dd_Converter_byTable_0 rfl rfl ?_
  refine zx_lload_n E 3 dd_Converter_byTable_1 rfl rfl ?_
  refine zx_callS_z E [.int a1, .long a3] (fun rZ eZ => zt_Basics_isNull _ _ a1 a3 h _ eZ) zc_Converter_19 ⟨by decide, by decide⟩ (Nat.zero_le _) (Nat.zero_le _) rfl rfl (Nat.le_of_ble_eq_true rfl) dd_Converter_byTable_2 (fun r1 => ?_)
  refine zx_ifb_eq E (x := r1) 13 dd_Converter_byTable_5 rfl ?_ ?_
  · refine zx_iload_n E 2 dd_Converter_byTable_8 rfl rfl ?_
    refine zx_callS_l E [.int a2] (fun rZ eZ => zt_Basics_emptyOf _ _ a2 h _ eZ) zc_Converter_25 ⟨by decide, by decide⟩ (Nat.zero_le _) (Nat.zero_le _) rfl rfl (Nat.le_of_ble_eq_true rfl) dd_Converter_byTable_9 (fun r2 => ?_)
    exact zx_lret E rfl rfl dd_Converter_byTable_12
  refine zx_iload_n E 2 dd_Converter_byTable_13 rfl rfl ?_
  refine zx_bipush E (14 : Int32) dd_Converter_byTable_14 (by decide) ?_
  refine zx_icmp_ne E 80 dd_Converter_byTable_16 rfl ?_ ?_
  rotate_left
  · refine zx_aload_n E 0 dd_Converter_byTable_80 rfl rfl ?_
    refine zx_getR E 1 0 zd_Converter_types zg_23 Nat.zero_lt_one (zr_Converter_types _) zw_310 dd_Converter_byTable_81 ?_
    refine zx_iload_n E 2 dd_Converter_byTable_84 rfl rfl ?_
    refine zx_callV_z (T := zx_TTypes) E [.int a2] (fun rZ eZ => zt_Types_isEnum _ _ a2 h _ eZ) zg_1 Nat.zero_lt_one rfl zc_Converter_33 ⟨by decide, by decide⟩ (Nat.zero_le _) (Nat.zero_le _) rfl rfl (Nat.le_of_ble_eq_true rfl) dd_Converter_byTable_85 (fun r10 => ?_)
    refine zx_ifb_eq E (x := r10) 99 dd_Converter_byTable_88 rfl ?_ ?_
    · refine zx_aload_n E 0 dd_Converter_byTable_91 rfl rfl ?_
      refine zx_iload_n E 2 dd_Converter_byTable_92 rfl rfl ?_
      refine zx_lload_n E 3 dd_Converter_byTable_93 rfl rfl ?_
      refine zx_l2i E dd_Converter_byTable_94 ?_
      refine zx_callV_lw (T := zx_TConverter) E [.int a2, .int (a3.toInt32)] (fun rZ eZ => zt_Converter_constantOf _ _ a2 (a3.toInt32) h _ eZ) zg_23 Nat.zero_lt_one rfl zc_Converter_58 ⟨by decide, by decide⟩ (Nat.zero_le _) (Nat.zero_le _) rfl rfl (Nat.le_of_ble_eq_true rfl) dd_Converter_byTable_95 (fun r11 => ?_)
      exact zx_lret E rfl rfl dd_Converter_byTable_98
    refine zx_aload_n E 0 dd_Converter_byTable_99 rfl rfl ?_
    refine zx_iload_n E 2 dd_Converter_byTable_100 rfl rfl ?_
    refine zx_aload_n E 0 dd_Converter_byTable_101 rfl rfl ?_
    refine zx_iload_n E 1 dd_Converter_byTable_102 rfl rfl ?_
    refine zx_lload_n E 3 dd_Converter_byTable_103 rfl rfl ?_
    refine zx_iload_n E 2 dd_Converter_byTable_104 rfl rfl ?_
    refine zx_callS_i E [.int a2] (fun rZ eZ => zt_Basics_kindOf _ _ a2 h _ eZ) zc_Converter_47 ⟨by decide, by decide⟩ (Nat.zero_le _) (Nat.zero_le _) rfl rfl (Nat.le_of_ble_eq_true rfl) dd_Converter_byTable_105 (fun r12 => ?_)
    refine zx_callV_lw (T := zx_TConverter) E [.int a1, .long a3, .int r12] (fun rZ eZ => zt_Converter_plain _ _ a1 a3 r12 h _ eZ) zg_23 Nat.zero_lt_one rfl zc_Converter_62 ⟨by decide, by decide⟩ (Nat.zero_le _) (Nat.zero_le _) rfl rfl (Nat.le_of_ble_eq_true rfl) dd_Converter_byTable_108 (fun r13 => ?_)
    refine zx_callV_lw (T := zx_TConverter) E [.int a2, .long r13.1] (fun rZ eZ => zt_Converter_boxed _ _ a2 r13.1 r13.2 _ eZ) zg_23 Nat.zero_lt_one rfl zc_Converter_66 ⟨by decide, by decide⟩ (Nat.zero_le _) (Nat.zero_le _) rfl rfl (Nat.le_of_ble_eq_true rfl) dd_Converter_byTable_111 (fun r14 => ?_)
    exact zx_lret E rfl rfl dd_Converter_byTable_114
  refine zx_aload_n E 0 dd_Converter_byTable_19 rfl rfl ?_
  refine zx_bipush E (14 : Int32) dd_Converter_byTable_20 (by decide) ?_
  refine zx_callV_iw (T := zx_TConverter) E [.int (14 : Int32)] (fun rZ eZ => zt_Converter_created _ _ (14 : Int32) h _ eZ) zg_23 Nat.zero_lt_one rfl zc_Converter_29 ⟨by decide, by decide⟩ (Nat.zero_le _) (Nat.zero_le _) rfl rfl (Nat.le_of_ble_eq_true rfl) dd_Converter_byTable_22 (fun r3 => ?_)
  refine zx_istore E (lv1 := [(5, .int r3.1), (0, zx_rV (zx_BK B) 23 0), (1, .int a1), (2, .int a2), (3, .long a3)]) dd_Converter_byTable_25 (by decide) rfl ?_
  refine zx_aload_n E 1 dd_Converter_byTable_27 rfl rfl ?_
  refine zx_getR E 1 0 zd_Converter_types zg_23 Nat.zero_lt_one (zr_Converter_types _) zw_310 dd_Converter_byTable_28 ?_
  refine zx_iload_n E 2 dd_Converter_byTable_31 rfl rfl ?_
  refine zx_callV_z (T := zx_TTypes) E [.int a1] (fun rZ eZ => zt_Types_isEnum _ _ a1 r3.2 _ eZ) zg_1 Nat.zero_lt_one rfl zc_Converter_33 ⟨by decide, by decide⟩ (Nat.zero_le _) (Nat.zero_le _) rfl rfl (Nat.le_of_ble_eq_true rfl) dd_Converter_byTable_32 (fun r4 => ?_)
  refine zx_ifb_eq E (x := r4) 60 dd_Converter_byTable_35 rfl ?_ ?_
  rotate_left
  · refine zx_aload_n E 1 dd_Converter_byTable_60 rfl rfl ?_
    refine zx_iload E 0 dd_Converter_byTable_61 rfl ?_
    refine zx_iload_n E 2 dd_Converter_byTable_63 rfl rfl ?_
    refine zx_callS_i E [.int a1] (fun rZ eZ => zt_Basics_kindOf _ _ a1 r3.2 _ eZ) zc_Converter_47 ⟨by decide, by decide⟩ (Nat.zero_le _) (Nat.zero_le _) rfl rfl (Nat.le_of_ble_eq_true rfl) dd_Converter_byTable_64 (fun r7 => ?_)
    refine zx_aload_n E 1 dd_Converter_byTable_67 rfl rfl ?_
    refine zx_iload_n E 2 dd_Converter_byTable_68 rfl rfl ?_
    refine zx_lload_n E 4 dd_Converter_byTable_69 rfl rfl ?_
    refine zx_callV_l (T := zx_TConverter) E [.int a1, .long a3] (fun rZ eZ => zt_Converter_unboxed _ _ a1 a3 r3.2 _ eZ) zg_23 Nat.zero_lt_one rfl zc_Converter_50 ⟨by decide, by decide⟩ (Nat.zero_le _) (Nat.zero_le _) rfl rfl (Nat.le_of_ble_eq_true rfl) dd_Converter_byTable_70 (fun r8 => ?_)
    refine zx_callV_v (T := zx_TConverter) E [.int r3.1, .int r7, .long r8] (fun rZ eZ => zt_Converter_writePlain _ _ r3.1 r7 r8 r3.2 _ eZ) zg_23 Nat.zero_lt_one rfl zc_Converter_54 ⟨by decide, by decide⟩ (Nat.zero_le _) (Nat.zero_le _) rfl rfl (Nat.le_of_ble_eq_true rfl) dd_Converter_byTable_73 (fun r9 => ?_)
    refine zx_iload E 0 dd_Converter_byTable_76 rfl ?_
    refine zx_i2l E dd_Converter_byTable_78 ?_
    exact zx_lret E rfl rfl dd_Converter_byTable_79
  refine zx_aload_n E 1 dd_Converter_byTable_38 rfl rfl ?_
  refine zx_iload E 0 dd_Converter_byTable_39 rfl ?_
  refine zx_bipush E (110 : Int32) dd_Converter_byTable_41 (by decide) ?_
  refine zx_aload_n E 1 dd_Converter_byTable_43 rfl rfl ?_
  refine zx_getR E 1 0 zd_Converter_types zg_23 Nat.zero_lt_one (zr_Converter_types _) zw_310 dd_Converter_byTable_44 ?_
  refine zx_iload_n E 2 dd_Converter_byTable_47 rfl rfl ?_
  refine zx_lload_n E 4 dd_Converter_byTable_48 rfl rfl ?_
  refine zx_l2i E dd_Converter_byTable_49 ?_
  refine zx_callV_i (T := zx_TTypes) E [.int a1, .int (a3.toInt32)] (fun rZ eZ => zt_Types_nameAt _ _ a1 (a3.toInt32) r3.2 _ eZ) zg_1 Nat.zero_lt_one rfl zc_Converter_39 ⟨by decide, by decide⟩ (Nat.zero_le _) (Nat.zero_le _) rfl rfl (Nat.le_of_ble_eq_true rfl) dd_Converter_byTable_50 (fun r5 => ?_)
  refine zx_i2l E dd_Converter_byTable_53 ?_
  refine zx_callV_v (T := zx_TConverter) E [.int r3.1, .int (110 : Int32), .long (r5.toInt64)] (fun rZ eZ => zt_Converter_writeNumber _ _ r3.1 (110 : Int32) (r5.toInt64) r3.2 _ eZ) zg_23 Nat.zero_lt_one rfl zc_Converter_43 ⟨by decide, by decide⟩ (Nat.zero_le _) (Nat.zero_le _) rfl rfl (Nat.le_of_ble_eq_true rfl) dd_Converter_byTable_54 (fun r6 => ?_)
  refine zx_goto E 76 dd_Converter_byTable_57 rfl ?_
  refine zx_iload E 0 dd_Converter_byTable_76 rfl ?_
  refine zx_i2l E dd_Converter_byTable_78 ?_
  exact zx_lret E rfl rfl dd_Converter_byTable_79
set_option maxHeartbeats 4000000 in
set_option maxRecDepth 20000 in
theorem zt_Converter_byFunction (l : Launch) (K : zx_K) (a1 : Fin 8) (a2 : Int32) (a3 : Int64) (h : zx_H) (r : (Int64 × zx_H)) (hf : zs_Converter_byFunction a1 a2 a3 h = some r) : zx_MR l zm_Converter_byFunction zy_Converter_byFunction K [zx_rV K 23 0, zx_rV K 53 a1.val, .int a2, .long a3] h (some (.long r.1)) r.2 := by
  refine zx_ofM (M := zm_Converter_byFunction) (y := zy_Converter_byFunction) (r := r) (as := [zx_rV K 23 0, zx_rV K 53 a1.val, .int a2, .long a3]) (ρ := (fun r => ((some (Value.long r.1) : Option Value), r.2))) (by decide) rfl hf (Nat.le_of_ble_eq_true rfl) ?_
  intro B hl hK E
  subst hK
  subst hl
  show zx_X B zm_Converter_byFunction _ _ 0 0 0 [(0, zx_rV (zx_BK B) 23 0), (1, zx_rV (zx_BK B) 53 a1.val), (2, .int a2), (3, .long a3)] [] h
  unfold zs_Converter_byFunction
  refine zx_iload_n E 2 dd_Converter_byFunction_0 rfl rfl ?_
  refine zx_lload_n E 3 dd_Converter_byFunction_1 rfl rfl ?_
  refine zx_callS_z E [.int a2, .long a3] (fun rZ eZ => zt_Basics_isNull _ _ a2 a3 h _ eZ) zc_Converter_19 ⟨by decide, by decide⟩ (Nat.zero_le _) (Nat.zero_le _) rfl rfl (Nat.le_of_ble_eq_true rfl) dd_Converter_byFunction_2 (fun r1 => ?_)
  refine zx_ifb_eq E (x := r1) 16 dd_Converter_byFunction_5 rfl ?_ ?_
  · refine zx_aload_n E 1 dd_Converter_byFunction_8 rfl rfl ?_
    refine zx_getI E zd_Function_to zg_53 a1.isLt zw_80 dd_Converter_byFunction_9 ?_
    refine zx_callS_l E [.int (h.1 53 a1.val 1)] (fun rZ eZ => zt_Basics_emptyOf _ _ (h.1 53 a1.val 1) h _ eZ) zc_Converter_25 ⟨by decide, by decide⟩ (Nat.zero_le _) (Nat.zero_le _) rfl rfl (Nat.le_of_ble_eq_true rfl) dd_Converter_byFunction_12 (fun r2 => ?_)
    exact zx_lret E rfl rfl dd_Converter_byFunction_15
  refine zx_aload_n E 0 dd_Converter_byFunction_16 rfl rfl ?_
  refine zx_iload_n E 2 dd_Converter_byFunction_17 rfl rfl ?_
  refine zx_lload_n E 3 dd_Converter_byFunction_18 rfl rfl ?_
  refine zx_aload_n E 1 dd_Converter_byFunction_19 rfl rfl ?_
  refine zx_getI E zd_Function_from zg_53 a1.isLt zw_76 dd_Converter_byFunction_20 ?_
  refine zx_callS_i E [.int (h.1 53 a1.val 0)] (fun rZ eZ => zt_Basics_kindOf _ _ (h.1 53 a1.val 0) h _ eZ) zc_Converter_47 ⟨by decide, by decide⟩ (Nat.zero_le _) (Nat.zero_le _) rfl rfl (Nat.le_of_ble_eq_true rfl) dd_Converter_byFunction_23 (fun r3 => ?_)
  refine zx_callV_lw (T := zx_TConverter) E [.int a2, .long a3, .int r3] (fun rZ eZ => zt_Converter_plain _ _ a2 a3 r3 h _ eZ) zg_23 Nat.zero_lt_one rfl zc_Converter_62 ⟨by decide, by decide⟩ (Nat.zero_le _) (Nat.zero_le _) rfl rfl (Nat.le_of_ble_eq_true rfl) dd_Converter_byFunction_26 (fun r4 => ?_)
  refine zx_lstore E (lv1 := [(5, .long r4.1), (0, zx_rV (zx_BK B) 23 0), (1, zx_rV (zx_BK B) 53 a1.val), (2, .int a2), (3, .long a3)]) dd_Converter_byFunction_29 (by decide) rfl ?_
  refine zx_aload_n E 1 dd_Converter_byFunction_31 rfl rfl ?_
  refine zx_aload_n E 2 dd_Converter_byFunction_32 rfl rfl ?_
  refine zx_getI E zd_Function_to zg_53 a1.isLt zw_80 dd_Converter_byFunction_33 ?_
  refine zx_iconst E (4 : Int32) dd_Converter_byFunction_36 (by decide) ?_
  refine zx_aload_n E 2 dd_Converter_byFunction_37 rfl rfl ?_
  refine zx_getI E zd_Function_to zg_53 a1.isLt zw_80 dd_Converter_byFunction_38 ?_
  refine zx_callS_i E [.int (r4.2.1 53 a1.val 1)] (fun rZ eZ => zt_Basics_kindOf _ _ (r4.2.1 53 a1.val 1) r4.2 _ eZ) zc_Converter_47 ⟨by decide, by decide⟩ (Nat.zero_le _) (Nat.zero_le _) rfl rfl (Nat.le_of_ble_eq_true rfl) dd_Converter_byFunction_41 (fun r5 => ?_)
  refine zx_lload E 0 dd_Converter_byFunction_44 rfl ?_
  refine zx_aload_n E 2 dd_Converter_byFunction_46 rfl rfl ?_
  refine zx_getI E zd_Function_a zg_53 a1.isLt zw_84 dd_Converter_byFunction_47 ?_
  refine zx_i2l E dd_Converter_byFunction_50 ?_
  refine zx_lmul E dd_Converter_byFunction_51 ?_
  refine zx_aload_n E 2 dd_Converter_byFunction_52 rfl rfl ?_
  refine zx_getI E zd_Function_b zg_53 a1.isLt zw_86 dd_Converter_byFunction_53 ?_
  refine zx_i2l E dd_Converter_byFunction_56 ?_
  refine zx_ladd E dd_Converter_byFunction_57 ?_
  refine zx_callS_l E [.int (4 : Int32), .int r5, .long ((r4.1 * ((r4.2.1 53 a1.val 2).toInt64)) + ((r4.2.1 53 a1.val 3).toInt64))] (fun rZ eZ => zt_Basics_cast _ _ (4 : Int32) r5 ((r4.1 * ((r4.2.1 53 a1.val 2).toInt64)) + ((r4.2.1 53 a1.val 3).toInt64)) r4.2 _ eZ) zc_Converter_84 ⟨by decide, by decide⟩ (Nat.zero_le _) (Nat.zero_le _) rfl rfl (Nat.le_of_ble_eq_true rfl) dd_Converter_byFunction_58 (fun r6 => ?_)
  refine zx_callV_lw (T := zx_TConverter) E [.int (r4.2.1 53 a1.val 1), .long r6] (fun rZ eZ => zt_Converter_boxed _ _ (r4.2.1 53 a1.val 1) r6 r4.2 _ eZ) zg_23 Nat.zero_lt_one rfl zc_Converter_66 ⟨by decide, by decide⟩ (Nat.zero_le _) (Nat.zero_le _) rfl rfl (Nat.le_of_ble_eq_true rfl) dd_Converter_byFunction_61 (fun r7 => ?_)
  exact zx_lret E rfl rfl dd_Converter_byFunction_64
set_option maxHeartbeats 4000000 in
set_option maxRecDepth 20000 in
theorem zt_Mapper_hasFailed (l : Launch) (K : zx_K)  (h : zx_H) (r : Bool) (hf : zs_Mapper_hasFailed  h = some r) : zx_MR l zm_Mapper_hasFailed zy_Mapper_hasFailed K [zx_rV K 17 0] h (some (.int (zx_b r))) h := by
  refine zx_ofM (M := zm_Mapper_hasFailed) (y := zy_Mapper_hasFailed) (r := r) (as := [zx_rV K 17 0]) (ρ := (fun r => ((some (Value.int (zx_b r)) : Option Value), h))) (by decide) rfl hf (Nat.le_of_ble_eq_true rfl) ?_
  intro B hl hK E
  subst hK
  subst hl
  show zx_X B zm_Mapper_hasFailed _ _ 0 0 0 [(0, zx_rV (zx_BK B) 17 0)] [] h
  unfold zs_Mapper_hasFailed
  refine zx_aload_n E 0 dd_Mapper_hasFailed_0 rfl rfl ?_
  refine zx_getR E 23 0 zd_Mapper_converter zg_17 Nat.zero_lt_one (zr_Mapper_converter _) zw_325 dd_Mapper_hasFailed_1 ?_
  refine zx_getI E zd_Converter_failed zg_23 Nat.zero_lt_one zw_312 dd_Mapper_hasFailed_4 ?_
  refine zx_asB0 E (fun b1 => ?_)
  exact zx_zret E b1 rfl rfl rfl dd_Mapper_hasFailed_7
set_option maxHeartbeats 4000000 in
set_option maxRecDepth 20000 in
theorem zb_Arrays_fill_5 {B : zx_B} (E : zx_E B zm_Arrays_fill)  (k5 : (Int32 → Int32 → Int32 → zx_H → Option zx_H)) (hk5 : ∀ (x1 : Int32) (x2 : Int32) (x3 : Int32) (h : zx_H), zx_X B zm_Arrays_fill (zx_QM B (fun r => ((none : Option Value), r))) (k5 x1 x2 x3 h) 0 0 5 [(0, zx_rV (zx_BK B) 18 0), (1, .int x1), (2, .int x2), (3, .int x3)] [] h) (x1 : Int32) (x2 : Int32) (x3 : Int32) (h : zx_H) : zx_X B zm_Arrays_fill (zx_QM B (fun r => ((none : Option Value), r))) (zs_Arrays_fill_L5_body  k5 x1 x2 x3 h) 0 0 5 [(0, zx_rV (zx_BK B) 18 0), (1, .int x1), (2, .int x2), (3, .int x3)] [] h := by
  unfold zs_Arrays_fill_L5_body
  refine zx_iload_n E 2 dd_Arrays_fill_5 rfl rfl ?_
  refine zx_iload_n E 3 dd_Arrays_fill_6 rfl rfl ?_
  refine zx_icmp_ge E 20 dd_Arrays_fill_7 rfl ?_ ?_
  rotate_left
  · exact zx_vret E rfl rfl dd_Arrays_fill_20
  refine zx_aload_n E 0 dd_Arrays_fill_10 rfl rfl ?_
  refine zx_iload_n E 2 dd_Arrays_fill_11 rfl rfl ?_
  refine zx_iload_n E 1 dd_Arrays_fill_12 rfl rfl ?_
  refine zx_iast E zg_18 Nat.zero_lt_one dd_Arrays_fill_13 ?_
  refine zx_letH (fun h1 => ?_)
  refine zx_iinc E 2 (x2 + (1 : Int32)) (lv1 := [(2, .int (x2 + (1 : Int32))), (0, zx_rV (zx_BK B) 18 0), (1, .int x1), (3, .int x3)]) dd_Arrays_fill_14 rfl rfl (by decide) rfl ?_
  refine zx_goto E 5 dd_Arrays_fill_17 rfl ?_
  refine zx_sub [1, 2, 0, 3] rfl ?_
  exact hk5 x1 (x2 + (1 : Int32)) x3 h1
theorem zj_Arrays_fill_5 {B : zx_B} (E : zx_E B zm_Arrays_fill)  : ∀ (x1 : Int32) (x2 : Int32) (x3 : Int32) (h : zx_H), zx_X B zm_Arrays_fill (zx_QM B (fun r => ((none : Option Value), r))) (zs_Arrays_fill_L5  x1 x2 x3 h) 0 0 5 [(0, zx_rV (zx_BK B) 18 0), (1, .int x1), (2, .int x2), (3, .int x3)] [] h := by
  unfold zs_Arrays_fill_L5
  generalize zx_fuel = n
  induction n with
  | zero => intros; exact zx_non
  | succ n ih => intro x1 x2 x3 h; exact zb_Arrays_fill_5 E  _ ih x1 x2 x3 h
set_option maxHeartbeats 4000000 in
set_option maxRecDepth 20000 in
theorem zt_Arrays_fill (l : Launch) (K : zx_K) (a1 : Int32) (h : zx_H) (r : zx_H) (hf : zs_Arrays_fill a1 h = some r) : zx_MR l zm_Arrays_fill zy_Arrays_fill K [zx_rV K 18 0, .int a1] h none r := by
  refine zx_ofM (M := zm_Arrays_fill) (y := zy_Arrays_fill) (r := r) (as := [zx_rV K 18 0, .int a1]) (ρ := (fun r => ((none : Option Value), r))) (by decide) rfl hf (Nat.le_of_ble_eq_true rfl) ?_
  intro B hl hK E
  subst hK
  subst hl
  show zx_X B zm_Arrays_fill _ _ 0 0 0 [(0, zx_rV (zx_BK B) 18 0), (1, .int a1)] [] h
  unfold zs_Arrays_fill
  refine zx_iconst E (0 : Int32) dd_Arrays_fill_0 (by decide) ?_
  refine zx_istore_n E (lv1 := [(2, .int (0 : Int32)), (0, zx_rV (zx_BK B) 18 0), (1, .int a1)]) dd_Arrays_fill_1 rfl (by decide) rfl ?_
  refine zx_aload_n E 1 dd_Arrays_fill_2 rfl rfl ?_
  refine zx_alen E (6400 : Int32) zg_18 Nat.zero_lt_one (by decide) dd_Arrays_fill_3 ?_
  refine zx_istore_n E (lv1 := [(3, .int (6400 : Int32)), (2, .int (0 : Int32)), (0, zx_rV (zx_BK B) 18 0), (1, .int a1)]) dd_Arrays_fill_4 rfl (by decide) rfl ?_
  refine zx_sub [2, 3, 1, 0] rfl ?_
  exact zj_Arrays_fill_5 E a1 (0 : Int32) (6400 : Int32) h
set_option maxHeartbeats 4000000 in
set_option maxRecDepth 20000 in
theorem zj_Model_hasMethod_20 {B : zx_B} (E : zx_E B zm_Model_hasMethod) (h : zx_H)   : zx_X B zm_Model_hasMethod (zx_QM B (fun r => ((some (Value.int (zx_b r)) : Option Value), h))) (zs_Model_hasMethod_J20 h  ) 0 0 20 [] [] h := by
  unfold zs_Model_hasMethod_J20
  refine zx_iconst E (0 : Int32) dd_Model_hasMethod_20 (by decide) ?_
  exact zx_zret E false rfl rfl rfl dd_Model_hasMethod_21
set_option maxHeartbeats 4000000 in
set_option maxRecDepth 20000 in
theorem zt_Model_hasMethod (l : Launch) (K : zx_K) (a1 : Int64) (h : zx_H) (r : Bool) (hf : zs_Model_hasMethod a1 h = some r) : zx_MR l zm_Model_hasMethod zy_Model_hasMethod K [zx_rV K 11 0, .long a1] h (some (.int (zx_b r))) h := by
  refine zx_ofM (M := zm_Model_hasMethod) (y := zy_Model_hasMethod) (r := r) (as := [zx_rV K 11 0, .long a1]) (ρ := (fun r => ((some (Value.int (zx_b r)) : Option Value), h))) (by decide) rfl hf (Nat.le_of_ble_eq_true rfl) ?_
  intro B hl hK E
  subst hK
  subst hl
  show zx_X B zm_Model_hasMethod _ _ 0 0 0 [(0, zx_rV (zx_BK B) 11 0), (1, .long a1)] [] h
  unfold zs_Model_hasMethod
  refine zx_lload_n E 1 dd_Model_hasMethod_0 rfl rfl ?_
  refine zx_lconst E (0 : Int64) dd_Model_hasMethod_1 rfl ?_
  refine zx_lcmp_lt E 20 dd_Model_hasMethod_2 dd_Model_hasMethod_3 rfl ?_ ?_
  rotate_left
  · refine zx_sub [] rfl ?_
    exact zj_Model_hasMethod_20 E h
  refine zx_lload_n E 1 dd_Model_hasMethod_6 rfl rfl ?_
  refine zx_aload_n E 0 dd_Model_hasMethod_7 rfl rfl ?_
  refine zx_getI E zd_Model_methodCount zg_11 Nat.zero_lt_one zw_214 dd_Model_hasMethod_8 ?_
  refine zx_i2l E dd_Model_hasMethod_11 ?_
  refine zx_lcmp_ge E 20 dd_Model_hasMethod_12 dd_Model_hasMethod_13 rfl ?_ ?_
  rotate_left
  · refine zx_sub [] rfl ?_
    exact zj_Model_hasMethod_20 E h
  refine zx_iconst E (1 : Int32) dd_Model_hasMethod_16 (by decide) ?_
  refine zx_goto E 21 dd_Model_hasMethod_17 rfl ?_
  exact zx_zret E true rfl rfl rfl dd_Model_hasMethod_21
set_option maxHeartbeats 4000000 in
set_option maxRecDepth 20000 in
theorem zb_Store_createBean_18 {B : zx_B} (E : zx_E B zm_Store_createBean)  (k18 : (Int32 → Int32 → Int32 → Int32 → zx_H → Option (Int32 × zx_H))) (hk18 : ∀ (x1 : Int32) (x2 : Int32) (x3 : Int32) (x4 : Int32) (h : zx_H), zx_X B zm_Store_createBean (zx_QM B (fun r => ((some (Value.int r.1) : Option Value), r.2))) (k18 x1 x2 x3 x4 h) 0 0 18 [(0, zx_rV (zx_BK B) 7 0), (1, .int x1), (2, .int x2), (3, .int x3), (4, .int x4)] [] h) (x1 : Int32) (x2 : Int32) (x3 : Int32) (x4 : Int32) (h : zx_H) : zx_X B zm_Store_createBean (zx_QM B (fun r => ((some (Value.int r.1) : Option Value), r.2))) (zs_Store_createBean_L18_body  k18 x1 x2 x3 x4 h) 0 0 18 [(0, zx_rV (zx_BK B) 7 0), (1, .int x1), (2, .int x2), (3, .int x3), (4, .int x4)] [] h := by
  unfold zs_Store_createBean_L18_body
  refine zx_iload E 4 dd_Store_createBean_18 rfl ?_
  refine zx_iload_n E 3 dd_Store_createBean_20 rfl rfl ?_
  refine zx_icmp_ge E 49 dd_Store_createBean_21 rfl ?_ ?_
  rotate_left
  · refine zx_iload_n E 2 dd_Store_createBean_49 rfl rfl ?_
    exact zx_iret E rfl rfl dd_Store_createBean_50
  refine zx_aload_n E 0 dd_Store_createBean_24 rfl rfl ?_
  refine zx_iload_n E 2 dd_Store_createBean_25 rfl rfl ?_
  refine zx_aload_n E 0 dd_Store_createBean_26 rfl rfl ?_
  refine zx_getR E 1 0 zd_Store_types zg_7 Nat.zero_lt_one (zr_Store_types _) zw_233 dd_Store_createBean_27 ?_
  refine zx_iload_n E 1 dd_Store_createBean_30 rfl rfl ?_
  refine zx_iload E 4 dd_Store_createBean_31 rfl ?_
  refine zx_callV_i (T := zx_TTypes) E [.int x1, .int x4] (fun rZ eZ => zt_Types_typeAt _ _ x1 x4 h _ eZ) zg_1 Nat.zero_lt_one rfl zc_Store_45 ⟨by decide, by decide⟩ (Nat.zero_le _) (Nat.zero_le _) rfl rfl (Nat.le_of_ble_eq_true rfl) dd_Store_createBean_33 (fun r1 => ?_)
  refine zx_callS_l E [.int r1] (fun rZ eZ => zt_Basics_emptyOf _ _ r1 h _ eZ) zc_Store_49 ⟨by decide, by decide⟩ (Nat.zero_le _) (Nat.zero_le _) rfl rfl (Nat.le_of_ble_eq_true rfl) dd_Store_createBean_36 (fun r2 => ?_)
  refine zx_callV_zw (T := zx_TStore) E [.int x2, .long r2] (fun rZ eZ => zt_Store_append _ _ x2 r2 h _ eZ) zg_7 Nat.zero_lt_one rfl zc_Store_32 ⟨by decide, by decide⟩ (Nat.zero_le _) (Nat.zero_le _) rfl rfl (Nat.le_of_ble_eq_true rfl) dd_Store_createBean_39 (fun r3 => ?_)
  refine zx_pop E dd_Store_createBean_42 rfl ?_
  refine zx_iinc E 4 (x4 + (1 : Int32)) (lv1 := [(4, .int (x4 + (1 : Int32))), (0, zx_rV (zx_BK B) 7 0), (1, .int x1), (2, .int x2), (3, .int x3)]) dd_Store_createBean_43 rfl rfl (by decide) rfl ?_
  refine zx_goto E 18 dd_Store_createBean_46 rfl ?_
  refine zx_sub [1, 2, 3, 4, 0] rfl ?_
  exact hk18 x1 x2 x3 (x4 + (1 : Int32)) r3.2
theorem zj_Store_createBean_18 {B : zx_B} (E : zx_E B zm_Store_createBean)  : ∀ (x1 : Int32) (x2 : Int32) (x3 : Int32) (x4 : Int32) (h : zx_H), zx_X B zm_Store_createBean (zx_QM B (fun r => ((some (Value.int r.1) : Option Value), r.2))) (zs_Store_createBean_L18  x1 x2 x3 x4 h) 0 0 18 [(0, zx_rV (zx_BK B) 7 0), (1, .int x1), (2, .int x2), (3, .int x3), (4, .int x4)] [] h := by
  unfold zs_Store_createBean_L18
  generalize zx_fuel = n
  induction n with
  | zero => intros; exact zx_non
  | succ n ih => intro x1 x2 x3 x4 h; exact zb_Store_createBean_18 E  _ ih x1 x2 x3 x4 h
set_option maxHeartbeats 4000000 in
set_option maxRecDepth 20000 in
theorem zt_Store_createBean (l : Launch) (K : zx_K) (a1 : Int32) (h : zx_H) (r : (Int32 × zx_H)) (hf : zs_Store_createBean a1 h = some r) : zx_MR l zm_Store_createBean zy_Store_createBean K [zx_rV K 7 0, .int a1] h (some (.int r.1)) r.2 := by
  refine zx_ofM (M := zm_Store_createBean) (y := zy_Store_createBean) (r := r) (as := [zx_rV K 7 0, .int a1]) (ρ := (fun r => ((some (Value.int r.1) : Option Value), r.2))) (by decide) rfl hf (Nat.le_of_ble_eq_true rfl) ?_
  intro B hl hK E
  subst hK
  subst hl
  show zx_X B zm_Store_createBean _ _ 0 0 0 [(0, zx_rV (zx_BK B) 7 0), (1, .int a1)] [] h
  unfold zs_Store_createBean
  refine zx_aload_n E 0 dd_Store_createBean_0 rfl rfl ?_
  refine zx_iload_n E 1 dd_Store_createBean_1 rfl rfl ?_
  refine zx_callV_iw (T := zx_TStore) E [.int a1] (fun rZ eZ => zt_Store_create _ _ a1 h _ eZ) zg_7 Nat.zero_lt_one rfl zc_Store_36 ⟨by decide, by decide⟩ (Nat.zero_le _) (Nat.zero_le _) rfl rfl (Nat.le_of_ble_eq_true rfl) dd_Store_createBean_2 (fun r1 => ?_)
  refine zx_istore_n E (lv1 := [(2, .int r1.1), (0, zx_rV (zx_BK B) 7 0), (1, .int a1)]) dd_Store_createBean_5 rfl (by decide) rfl ?_
  refine zx_aload_n E 1 dd_Store_createBean_6 rfl rfl ?_
  refine zx_getR E 1 0 zd_Store_types zg_7 Nat.zero_lt_one (zr_Store_types _) zw_233 dd_Store_createBean_7 ?_
  refine zx_iload_n E 2 dd_Store_createBean_10 rfl rfl ?_
  refine zx_callV_i (T := zx_TTypes) E [.int a1] (fun rZ eZ => zt_Types_memberCount _ _ a1 r1.2 _ eZ) zg_1 Nat.zero_lt_one rfl zc_Store_40 ⟨by decide, by decide⟩ (Nat.zero_le _) (Nat.zero_le _) rfl rfl (Nat.le_of_ble_eq_true rfl) dd_Store_createBean_11 (fun r2 => ?_)
  refine zx_istore_n E (lv1 := [(3, .int r2), (2, .int r1.1), (0, zx_rV (zx_BK B) 7 0), (1, .int a1)]) dd_Store_createBean_14 rfl (by decide) rfl ?_
  refine zx_iconst E (0 : Int32) dd_Store_createBean_15 (by decide) ?_
  refine zx_istore E (lv1 := [(4, .int (0 : Int32)), (3, .int r2), (2, .int r1.1), (0, zx_rV (zx_BK B) 7 0), (1, .int a1)]) dd_Store_createBean_16 (by decide) rfl ?_
  refine zx_sub [3, 4, 2, 1, 0] rfl ?_
  exact zj_Store_createBean_18 E a1 r1.1 r2 (0 : Int32) r1.2
set_option maxHeartbeats 4000000 in
set_option maxRecDepth 20000 in
theorem zj_Mapper_begin_17 {B : zx_B} (E : zx_E B zm_Mapper_begin)   (h : zx_H) : zx_X B zm_Mapper_begin (zx_QM B (fun r => ((none : Option Value), r))) (zs_Mapper_begin_J17  h) 0 0 17 [(0, zx_rV (zx_BK B) 17 0)] [] h := by
  unfold zs_Mapper_begin_J17
  refine zx_aload_n E 0 dd_Mapper_begin_17 rfl rfl ?_
  refine zx_getR E 23 0 zd_Mapper_converter zg_17 Nat.zero_lt_one (zr_Mapper_converter _) zw_325 dd_Mapper_begin_18 ?_
  refine zx_iconst E (1 : Int32) dd_Mapper_begin_21 (by decide) ?_
  refine zx_putI E zd_Converter_failed zp_Converter_failed zg_23 Nat.zero_lt_one rfl rfl zw_312 dd_Mapper_begin_22 ?_
  refine zx_letH (fun h1 => ?_)
  exact zx_vret E rfl rfl dd_Mapper_begin_25
set_option maxHeartbeats 4000000 in
set_option maxRecDepth 20000 in
theorem zt_Mapper_begin (l : Launch) (K : zx_K) (a1 : Int32) (a2 : Int32) (a3 : Int32) (h : zx_H) (r : zx_H) (hf : zs_Mapper_begin a1 a2 a3 h = some r) : zx_MR l zm_Mapper_begin zy_Mapper_begin K [zx_rV K 17 0, .int a1, .int a2, .int a3] h none r := by
  refine zx_ofM (M := zm_Mapper_begin) (y := zy_Mapper_begin) (r := r) (as := [zx_rV K 17 0, .int a1, .int a2, .int a3]) (ρ := (fun r => ((none : Option Value), r))) (by decide) rfl hf (Nat.le_of_ble_eq_true rfl) ?_
  intro B hl hK E
  subst hK
  subst hl
  show zx_X B zm_Mapper_begin _ _ 0 0 0 [(0, zx_rV (zx_BK B) 17 0), (1, .int a1), (2, .int a2), (3, .int a3)] [] h
  unfold zs_Mapper_begin
  refine zx_aload_n E 0 dd_Mapper_begin_0 rfl rfl ?_
  refine zx_getI E zd_Mapper_height zg_17 Nat.zero_lt_one zw_331 dd_Mapper_begin_1 ?_
  refine zx_if_lt E 17 dd_Mapper_begin_4 rfl ?_ ?_
  rotate_left
  · refine zx_sub [0] rfl ?_
    exact zj_Mapper_begin_17 E h
  refine zx_aload_n E 0 dd_Mapper_begin_7 rfl rfl ?_
  refine zx_getI E zd_Mapper_height zg_17 Nat.zero_lt_one zw_331 dd_Mapper_begin_8 ?_
  refine zx_sipush E (400 : Int32) dd_Mapper_begin_11 (by decide) ?_
  refine zx_icmp_lt E 26 dd_Mapper_begin_14 rfl ?_ ?_
  · refine zx_sub [0] rfl ?_
    exact zj_Mapper_begin_17 E h
  refine zx_aload_n E 0 dd_Mapper_begin_26 rfl rfl ?_
  refine zx_getR E 22 0 zd_Mapper_methods zg_17 Nat.zero_lt_one (zr_Mapper_methods _) zw_330 dd_Mapper_begin_27 ?_
  refine zx_aload_n E 0 dd_Mapper_begin_30 rfl rfl ?_
  refine zx_getI E zd_Mapper_height zg_17 Nat.zero_lt_one zw_331 dd_Mapper_begin_31 ?_
  refine zx_iload_n E 1 dd_Mapper_begin_34 rfl rfl ?_
  refine zx_iast E zg_22 Nat.zero_lt_one dd_Mapper_begin_35 ?_
  refine zx_letH (fun h1 => ?_)
  refine zx_aload_n E 0 dd_Mapper_begin_36 rfl rfl ?_
  refine zx_getR E 19 0 zd_Mapper_sources zg_17 Nat.zero_lt_one (zr_Mapper_sources _) zw_327 dd_Mapper_begin_37 ?_
  refine zx_aload_n E 0 dd_Mapper_begin_40 rfl rfl ?_
  refine zx_getI E zd_Mapper_height zg_17 Nat.zero_lt_one zw_331 dd_Mapper_begin_41 ?_
  refine zx_iload_n E 2 dd_Mapper_begin_44 rfl rfl ?_
  refine zx_iast E zg_19 Nat.zero_lt_one dd_Mapper_begin_45 ?_
  refine zx_letH (fun h2 => ?_)
  refine zx_aload_n E 0 dd_Mapper_begin_46 rfl rfl ?_
  refine zx_getR E 20 0 zd_Mapper_targets zg_17 Nat.zero_lt_one (zr_Mapper_targets _) zw_328 dd_Mapper_begin_47 ?_
  refine zx_aload_n E 0 dd_Mapper_begin_50 rfl rfl ?_
  refine zx_getI E zd_Mapper_height zg_17 Nat.zero_lt_one zw_331 dd_Mapper_begin_51 ?_
  refine zx_iload_n E 3 dd_Mapper_begin_54 rfl rfl ?_
  refine zx_iast E zg_20 Nat.zero_lt_one dd_Mapper_begin_55 ?_
  refine zx_letH (fun h3 => ?_)
  refine zx_aload_n E 0 dd_Mapper_begin_56 rfl rfl ?_
  refine zx_getR E 21 0 zd_Mapper_nexts zg_17 Nat.zero_lt_one (zr_Mapper_nexts _) zw_329 dd_Mapper_begin_57 ?_
  refine zx_aload_n E 0 dd_Mapper_begin_60 rfl rfl ?_
  refine zx_getI E zd_Mapper_height zg_17 Nat.zero_lt_one zw_331 dd_Mapper_begin_61 ?_
  refine zx_iconst E (0 : Int32) dd_Mapper_begin_64 (by decide) ?_
  refine zx_iast E zg_21 Nat.zero_lt_one dd_Mapper_begin_65 ?_
  refine zx_letH (fun h4 => ?_)
  refine zx_aload_n E 0 dd_Mapper_begin_66 rfl rfl ?_
  refine zx_dup E dd_Mapper_begin_67 rfl ?_
  refine zx_getI E zd_Mapper_height zg_17 Nat.zero_lt_one zw_331 dd_Mapper_begin_68 ?_
  refine zx_iconst E (1 : Int32) dd_Mapper_begin_71 (by decide) ?_
  refine zx_iadd E dd_Mapper_begin_72 ?_
  refine zx_putI E zd_Mapper_height zp_Mapper_height zg_17 Nat.zero_lt_one rfl rfl zw_331 dd_Mapper_begin_73 ?_
  refine zx_letH (fun h5 => ?_)
  exact zx_vret E rfl rfl dd_Mapper_begin_76
set_option maxHeartbeats 4000000 in
set_option maxRecDepth 20000 in
theorem zj_Mapper_beanOf_63 {B : zx_B} (E : zx_E B zm_Mapper_beanOf)  (x1 : Int32) (x2 : Fin 16) (x3 : Int64) (x5 : Int32) (h : zx_H) : zx_X B zm_Mapper_beanOf (zx_QM B (fun r => ((some (Value.long r.1) : Option Value), r.2))) (zs_Mapper_beanOf_J63  x1 x2 x3 x5 h) 0 0 63 [(0, zx_rV (zx_BK B) 17 0), (1, .int x1), (2, zx_rV (zx_BK B) 54 x2.val), (3, .long x3), (5, .int x5)] [] h := by
  unfold zs_Mapper_beanOf_J63
  refine zx_aload_n E 0 dd_Mapper_beanOf_63 rfl rfl ?_
  refine zx_getR E 7 0 zd_Mapper_store zg_17 Nat.zero_lt_one (zr_Mapper_store _) zw_323 dd_Mapper_beanOf_64 ?_
  refine zx_aload_n E 2 dd_Mapper_beanOf_67 rfl rfl ?_
  refine zx_getI E zd_Method_to zg_54 x2.isLt zw_159 dd_Mapper_beanOf_68 ?_
  refine zx_callV_iw (T := zx_TStore) E [.int (h.1 54 x2.val 1)] (fun rZ eZ => zt_Store_createBean _ _ (h.1 54 x2.val 1) h _ eZ) zg_7 Nat.zero_lt_one rfl zc_Mapper_215 ⟨by decide, by decide⟩ (Nat.zero_le _) (Nat.zero_le _) rfl rfl (Nat.le_of_ble_eq_true rfl) dd_Mapper_beanOf_71 (fun r1 => ?_)
  refine zx_istore E (lv1 := [(6, .int r1.1), (0, zx_rV (zx_BK B) 17 0), (1, .int x1), (2, zx_rV (zx_BK B) 54 x2.val), (3, .long x3), (5, .int x5)]) dd_Mapper_beanOf_74 (by decide) rfl ?_
  refine zx_iload E 0 dd_Mapper_beanOf_76 rfl ?_
  refine zx_iconst E (-1 : Int32) dd_Mapper_beanOf_78 (by decide) ?_
  refine zx_icmp_ne E 94 dd_Mapper_beanOf_79 rfl ?_ ?_
  · refine zx_aload_n E 1 dd_Mapper_beanOf_82 rfl rfl ?_
    refine zx_getR E 23 0 zd_Mapper_converter zg_17 Nat.zero_lt_one (zr_Mapper_converter _) zw_325 dd_Mapper_beanOf_83 ?_
    refine zx_iconst E (1 : Int32) dd_Mapper_beanOf_86 (by decide) ?_
    refine zx_putI E zd_Converter_failed zp_Converter_failed zg_23 Nat.zero_lt_one rfl rfl zw_312 dd_Mapper_beanOf_87 ?_
    refine zx_letH (fun h2 => ?_)
    refine zx_ldc2 E (-1 : Int64) zw_847 dd_Mapper_beanOf_90 ?_
    exact zx_lret E rfl rfl dd_Mapper_beanOf_93
  refine zx_lload_n E 4 dd_Mapper_beanOf_94 rfl rfl ?_
  refine zx_lconst E (0 : Int64) dd_Mapper_beanOf_95 rfl ?_
  refine zx_lcmp_lt E 126 dd_Mapper_beanOf_96 dd_Mapper_beanOf_97 rfl ?_ ?_
  rotate_left
  · refine zx_iload E 0 dd_Mapper_beanOf_126 rfl ?_
    refine zx_i2l E dd_Mapper_beanOf_128 ?_
    exact zx_lret E rfl rfl dd_Mapper_beanOf_129
  refine zx_lload_n E 4 dd_Mapper_beanOf_100 rfl rfl ?_
  refine zx_ldc2 E (400 : Int64) zw_853 dd_Mapper_beanOf_101 ?_
  refine zx_lcmp_ge E 126 dd_Mapper_beanOf_104 dd_Mapper_beanOf_105 rfl ?_ ?_
  rotate_left
  · refine zx_iload E 0 dd_Mapper_beanOf_126 rfl ?_
    refine zx_i2l E dd_Mapper_beanOf_128 ?_
    exact zx_lret E rfl rfl dd_Mapper_beanOf_129
  refine zx_aload_n E 1 dd_Mapper_beanOf_108 rfl rfl ?_
  refine zx_getR E 18 0 zd_Mapper_taken zg_17 Nat.zero_lt_one (zr_Mapper_taken _) zw_326 dd_Mapper_beanOf_109 ?_
  refine zx_iload E 5 dd_Mapper_beanOf_112 rfl ?_
  refine zx_iload E 0 dd_Mapper_beanOf_114 rfl ?_
  refine zx_iast E zg_18 Nat.zero_lt_one dd_Mapper_beanOf_116 ?_
  refine zx_letH (fun h3 => ?_)
  refine zx_aload_n E 1 dd_Mapper_beanOf_117 rfl rfl ?_
  refine zx_iload_n E 2 dd_Mapper_beanOf_118 rfl rfl ?_
  refine zx_lload_n E 4 dd_Mapper_beanOf_119 rfl rfl ?_
  refine zx_l2i E dd_Mapper_beanOf_120 ?_
  refine zx_iload E 0 dd_Mapper_beanOf_121 rfl ?_
  refine zx_callV_v (T := zx_TMapper) E [.int x1, .int (x3.toInt32), .int r1.1] (fun rZ eZ => zt_Mapper_begin _ _ x1 (x3.toInt32) r1.1 h3 _ eZ) zg_17 Nat.zero_lt_one rfl zc_Mapper_186 ⟨by decide, by decide⟩ (Nat.zero_le _) (Nat.zero_le _) rfl rfl (Nat.le_of_ble_eq_true rfl) dd_Mapper_beanOf_123 (fun r4 => ?_)
  refine zx_iload E 0 dd_Mapper_beanOf_126 rfl ?_
  refine zx_i2l E dd_Mapper_beanOf_128 ?_
  exact zx_lret E rfl rfl dd_Mapper_beanOf_129
set_option maxHeartbeats 4000000 in
set_option maxRecDepth 20000 in
theorem zj_Mapper_beanOf_19 {B : zx_B} (E : zx_E B zm_Mapper_beanOf)  (x1 : Int32) (x2 : Fin 16) (x3 : Int64) (h : zx_H) : zx_X B zm_Mapper_beanOf (zx_QM B (fun r => ((some (Value.long r.1) : Option Value), r.2))) (zs_Mapper_beanOf_J19  x1 x2 x3 h) 0 0 19 [(0, zx_rV (zx_BK B) 17 0), (1, .int x1), (2, zx_rV (zx_BK B) 54 x2.val), (3, .long x3)] [] h := by
  unfold zs_Mapper_beanOf_J19
  refine zx_iload_n E 1 dd_Mapper_beanOf_19 rfl rfl ?_
  refine zx_sipush E (400 : Int32) dd_Mapper_beanOf_20 (by decide) ?_
  refine zx_imul E dd_Mapper_beanOf_23 ?_
  refine zx_lload_n E 3 dd_Mapper_beanOf_24 rfl rfl ?_
  refine zx_l2i E dd_Mapper_beanOf_25 ?_
  refine zx_iadd E dd_Mapper_beanOf_26 ?_
  refine zx_leti (fun y1 => ?_)
  refine zx_istore E (lv1 := [(5, .int y1), (0, zx_rV (zx_BK B) 17 0), (1, .int x1), (2, zx_rV (zx_BK B) 54 x2.val), (3, .long x3)]) dd_Mapper_beanOf_27 (by decide) rfl ?_
  refine zx_lload_n E 4 dd_Mapper_beanOf_29 rfl rfl ?_
  refine zx_lconst E (0 : Int64) dd_Mapper_beanOf_30 rfl ?_
  refine zx_lcmp_lt E 63 dd_Mapper_beanOf_31 dd_Mapper_beanOf_32 rfl ?_ ?_
  rotate_left
  · refine zx_sub [1, 2, 3, 4, 0] rfl ?_
    exact zj_Mapper_beanOf_63 E x1 x2 x3 y1 h
  refine zx_lload_n E 4 dd_Mapper_beanOf_35 rfl rfl ?_
  refine zx_ldc2 E (400 : Int64) zw_853 dd_Mapper_beanOf_36 ?_
  refine zx_lcmp_ge E 63 dd_Mapper_beanOf_39 dd_Mapper_beanOf_40 rfl ?_ ?_
  rotate_left
  · refine zx_sub [1, 2, 3, 4, 0] rfl ?_
    exact zj_Mapper_beanOf_63 E x1 x2 x3 y1 h
  refine zx_aload_n E 1 dd_Mapper_beanOf_43 rfl rfl ?_
  refine zx_getR E 18 0 zd_Mapper_taken zg_17 Nat.zero_lt_one (zr_Mapper_taken _) zw_326 dd_Mapper_beanOf_44 ?_
  refine zx_iload E 0 dd_Mapper_beanOf_47 rfl ?_
  refine zx_iald E zg_18 Nat.zero_lt_one dd_Mapper_beanOf_49 ?_
  refine zx_iconst E (-1 : Int32) dd_Mapper_beanOf_50 (by decide) ?_
  refine zx_icmp_eq E 63 dd_Mapper_beanOf_51 rfl ?_ ?_
  rotate_left
  · refine zx_sub [1, 2, 3, 4, 0] rfl ?_
    exact zj_Mapper_beanOf_63 E x1 x2 x3 y1 h
  refine zx_aload_n E 1 dd_Mapper_beanOf_54 rfl rfl ?_
  refine zx_getR E 18 0 zd_Mapper_taken zg_17 Nat.zero_lt_one (zr_Mapper_taken _) zw_326 dd_Mapper_beanOf_55 ?_
  refine zx_iload E 0 dd_Mapper_beanOf_58 rfl ?_
  refine zx_iald E zg_18 Nat.zero_lt_one dd_Mapper_beanOf_60 ?_
  refine zx_i2l E dd_Mapper_beanOf_61 ?_
  exact zx_lret E rfl rfl dd_Mapper_beanOf_62
set_option maxHeartbeats 4000000 in
set_option maxRecDepth 20000 in
theorem zt_Mapper_beanOf (l : Launch) (K : zx_K) (a1 : Int32) (a2 : Fin 16) (a3 : Int64) (h : zx_H) (r : (Int64 × zx_H)) (hf : zs_Mapper_beanOf a1 a2 a3 h = some r) : zx_MR l zm_Mapper_beanOf zy_Mapper_beanOf K [zx_rV K 17 0, .int a1, zx_rV K 54 a2.val, .long a3] h (some (.long r.1)) r.2 := by
  refine zx_ofM (M := zm_Mapper_beanOf) (y := zy_Mapper_beanOf) (r := r) (as := [zx_rV K 17 0, .int a1, zx_rV K 54 a2.val, .long a3]) (ρ := (fun r => ((some (Value.long r.1) : Option Value), r.2))) (by decide) rfl hf (Nat.le_of_ble_eq_true rfl) ?_
  intro B hl hK E
  subst hK
  subst hl
  show zx_X B zm_Mapper_beanOf _ _ 0 0 0 [(0, zx_rV (zx_BK B) 17 0), (1, .int a1), (2, zx_rV (zx_BK B) 54 a2.val), (3, .long a3)] [] h
  unfold zs_Mapper_beanOf
  refine zx_lload_n E 3 dd_Mapper_beanOf_0 rfl rfl ?_
  refine zx_ldc2 E (-1 : Int64) zw_847 dd_Mapper_beanOf_1 ?_
  refine zx_lcmp_ne E 19 dd_Mapper_beanOf_4 dd_Mapper_beanOf_5 rfl ?_ ?_
  rotate_left
  · exact zj_Mapper_beanOf_19 E a1 a2 a3 h
  refine zx_aload_n E 2 dd_Mapper_beanOf_8 rfl rfl ?_
  refine zx_getI E zd_Method_makesOfNull zg_54 a2.isLt zw_174 dd_Mapper_beanOf_9 ?_
  refine zx_if_ne E 19 dd_Mapper_beanOf_12 rfl ?_ ?_
  rotate_left
  · exact zj_Mapper_beanOf_19 E a1 a2 a3 h
  refine zx_ldc2 E (-1 : Int64) zw_847 dd_Mapper_beanOf_15 ?_
  exact zx_lret E rfl rfl dd_Mapper_beanOf_18
set_option maxHeartbeats 4000000 in
set_option maxRecDepth 20000 in
theorem zt_Mapper_constantOf (l : Launch) (K : zx_K) (a1 : Fin 16) (a2 : Int64) (h : zx_H) (r : (Int64 × zx_H)) (hf : zs_Mapper_constantOf a1 a2 h = some r) : zx_MR l zm_Mapper_constantOf zy_Mapper_constantOf K [zx_rV K 17 0, zx_rV K 54 a1.val, .long a2] h (some (.long r.1)) r.2 := by
  refine zx_ofM (M := zm_Mapper_constantOf) (y := zy_Mapper_constantOf) (r := r) (as := [zx_rV K 17 0, zx_rV K 54 a1.val, .long a2]) (ρ := (fun r => ((some (Value.long r.1) : Option Value), r.2))) (by decide) rfl hf (Nat.le_of_ble_eq_true rfl) ?_
  intro B hl hK E
  subst hK
  subst hl
  show zx_X B zm_Mapper_constantOf _ _ 0 0 0 [(0, zx_rV (zx_BK B) 17 0), (1, zx_rV (zx_BK B) 54 a1.val), (2, .long a2)] [] h
  unfold zs_Mapper_constantOf
  refine zx_lload_n E 2 dd_Mapper_constantOf_0 rfl rfl ?_
  refine zx_lconst E (0 : Int64) dd_Mapper_constantOf_1 rfl ?_
  refine zx_lcmp_lt E 14 dd_Mapper_constantOf_2 dd_Mapper_constantOf_3 rfl ?_ ?_
  rotate_left
  · refine zx_ldc2 E (-1 : Int64) zw_847 dd_Mapper_constantOf_14 ?_
    exact zx_lret E rfl rfl dd_Mapper_constantOf_17
  refine zx_lload_n E 2 dd_Mapper_constantOf_6 rfl rfl ?_
  refine zx_ldc2 E (8 : Int64) zw_863 dd_Mapper_constantOf_7 ?_
  refine zx_lcmp_lt E 18 dd_Mapper_constantOf_10 dd_Mapper_constantOf_11 rfl ?_ ?_
  · refine zx_ldc2 E (-1 : Int64) zw_847 dd_Mapper_constantOf_14 ?_
    exact zx_lret E rfl rfl dd_Mapper_constantOf_17
  refine zx_aload_n E 1 dd_Mapper_constantOf_18 rfl rfl ?_
  refine zx_getR E 59 a1.val zd_Method_becomes zg_54 a1.isLt (zr_Method_becomes _) zw_179 dd_Mapper_constantOf_19 ?_
  refine zx_lload_n E 2 dd_Mapper_constantOf_22 rfl rfl ?_
  refine zx_l2i E dd_Mapper_constantOf_23 ?_
  refine zx_iald E zg_59 a1.isLt dd_Mapper_constantOf_24 ?_
  refine zx_leti (fun y1 => ?_)
  refine zx_istore E (lv1 := [(4, .int y1), (0, zx_rV (zx_BK B) 17 0), (1, zx_rV (zx_BK B) 54 a1.val), (2, .long a2)]) dd_Mapper_constantOf_25 (by decide) rfl ?_
  refine zx_iload E 0 dd_Mapper_constantOf_27 rfl ?_
  refine zx_bipush E (-2 : Int32) dd_Mapper_constantOf_29 (by decide) ?_
  refine zx_icmp_ne E 42 dd_Mapper_constantOf_31 rfl ?_ ?_
  rotate_left
  · refine zx_iload E 0 dd_Mapper_constantOf_42 rfl ?_
    refine zx_i2l E dd_Mapper_constantOf_44 ?_
    exact zx_lret E rfl rfl dd_Mapper_constantOf_45
  refine zx_aload_n E 1 dd_Mapper_constantOf_34 rfl rfl ?_
  refine zx_getR E 23 0 zd_Mapper_converter zg_17 Nat.zero_lt_one (zr_Mapper_converter _) zw_325 dd_Mapper_constantOf_35 ?_
  refine zx_iconst E (1 : Int32) dd_Mapper_constantOf_38 (by decide) ?_
  refine zx_putI E zd_Converter_failed zp_Converter_failed zg_23 Nat.zero_lt_one rfl rfl zw_312 dd_Mapper_constantOf_39 ?_
  refine zx_letH (fun h2 => ?_)
  refine zx_iload E 0 dd_Mapper_constantOf_42 rfl ?_
  refine zx_i2l E dd_Mapper_constantOf_44 ?_
  exact zx_lret E rfl rfl dd_Mapper_constantOf_45
set_option maxHeartbeats 4000000 in
set_option maxRecDepth 20000 in
theorem zt_Mapper_byMethod (l : Launch) (K : zx_K) (a1 : Int32) (a2 : Int64) (h : zx_H) (r : (Int64 × zx_H)) (hf : zs_Mapper_byMethod a1 a2 h = some r) : zx_MR l zm_Mapper_byMethod zy_Mapper_byMethod K [zx_rV K 17 0, .int a1, .long a2] h (some (.long r.1)) r.2 := by
  refine zx_ofM (M := zm_Mapper_byMethod) (y := zy_Mapper_byMethod) (r := r) (as := [zx_rV K 17 0, .int a1, .long a2]) (ρ := (fun r => ((some (Value.long r.1) : Option Value), r.2))) (by decide) rfl hf (Nat.le_of_ble_eq_true rfl) ?_
  intro B hl hK E
  subst hK
  subst hl
  show zx_X B zm_Mapper_byMethod _ _ 0 0 0 [(0, zx_rV (zx_BK B) 17 0), (1, .int a1), (2, .long a2)] [] h
  unfold zs_Mapper_byMethod
  refine zx_aload_n E 0 dd_Mapper_byMethod_0 rfl rfl ?_
  refine zx_getR E 11 0 zd_Mapper_model zg_17 Nat.zero_lt_one (zr_Mapper_model _) zw_322 dd_Mapper_byMethod_1 ?_
  refine zx_iload_n E 1 dd_Mapper_byMethod_4 rfl rfl ?_
  refine zx_i2l E dd_Mapper_byMethod_5 ?_
  refine zx_callV_z (T := zx_TModel) E [.long (a1.toInt64)] (fun rZ eZ => zt_Model_hasMethod _ _ (a1.toInt64) h _ eZ) zg_11 Nat.zero_lt_one rfl zc_Mapper_189 ⟨by decide, by decide⟩ (Nat.zero_le _) (Nat.zero_le _) rfl rfl (Nat.le_of_ble_eq_true rfl) dd_Mapper_byMethod_6 (fun r1 => ?_)
  refine zx_ifb_ne E (x := r1) 16 dd_Mapper_byMethod_9 rfl ?_ ?_
  · refine zx_ldc2 E (-1 : Int64) zw_847 dd_Mapper_byMethod_12 ?_
    exact zx_lret E rfl rfl dd_Mapper_byMethod_15
  refine zx_aload_n E 0 dd_Mapper_byMethod_16 rfl rfl ?_
  refine zx_getR E 11 0 zd_Mapper_model zg_17 Nat.zero_lt_one (zr_Mapper_model _) zw_322 dd_Mapper_byMethod_17 ?_
  refine zx_getR E 13 0 zd_Model_methods zg_11 Nat.zero_lt_one (zr_Model_methods _) zw_208 dd_Mapper_byMethod_20 ?_
  refine zx_iload_n E 1 dd_Mapper_byMethod_23 rfl rfl ?_
  refine zx_aaldM E dd_Mapper_byMethod_24 (fun j2 => ?_)
  refine zx_astore E (lv1 := [(4, zx_rV (zx_BK B) 54 j2.val), (0, zx_rV (zx_BK B) 17 0), (1, .int a1), (2, .long a2)]) dd_Mapper_byMethod_25 (by decide) rfl ?_
  refine zx_aload_n E 1 dd_Mapper_byMethod_27 rfl rfl ?_
  refine zx_getR E 1 0 zd_Mapper_types zg_17 Nat.zero_lt_one (zr_Mapper_types _) zw_321 dd_Mapper_byMethod_28 ?_
  refine zx_aload E 0 dd_Mapper_byMethod_31 rfl ?_
  refine zx_getI E zd_Method_to zg_54 j2.isLt zw_159 dd_Mapper_byMethod_33 ?_
  refine zx_callV_z (T := zx_TTypes) E [.int (h.1 54 j2.val 1)] (fun rZ eZ => zt_Types_isBean _ _ (h.1 54 j2.val 1) h _ eZ) zg_1 Nat.zero_lt_one rfl zc_Mapper_193 ⟨by decide, by decide⟩ (Nat.zero_le _) (Nat.zero_le _) rfl rfl (Nat.le_of_ble_eq_true rfl) dd_Mapper_byMethod_36 (fun r3 => ?_)
  refine zx_ifb_eq E (x := r3) 53 dd_Mapper_byMethod_39 rfl ?_ ?_
  rotate_left
  · refine zx_aload_n E 1 dd_Mapper_byMethod_53 rfl rfl ?_
    refine zx_aload E 0 dd_Mapper_byMethod_54 rfl ?_
    refine zx_lload_n E 3 dd_Mapper_byMethod_56 rfl rfl ?_
    refine zx_callV_lw (T := zx_TMapper) E [zx_rV (zx_BK B) 54 j2.val, .long a2] (fun rZ eZ => zt_Mapper_constantOf _ _ j2 a2 h _ eZ) zg_17 Nat.zero_lt_one rfl zc_Mapper_201 ⟨by decide, by decide⟩ (Nat.zero_le _) (Nat.zero_le _) rfl rfl (Nat.le_of_ble_eq_true rfl) dd_Mapper_byMethod_57 (fun r5 => ?_)
    exact zx_lret E rfl rfl dd_Mapper_byMethod_60
  refine zx_aload_n E 1 dd_Mapper_byMethod_42 rfl rfl ?_
  refine zx_iload_n E 2 dd_Mapper_byMethod_43 rfl rfl ?_
  refine zx_aload E 0 dd_Mapper_byMethod_44 rfl ?_
  refine zx_lload_n E 3 dd_Mapper_byMethod_46 rfl rfl ?_
  refine zx_callV_lw (T := zx_TMapper) E [.int a1, zx_rV (zx_BK B) 54 j2.val, .long a2] (fun rZ eZ => zt_Mapper_beanOf _ _ a1 j2 a2 h _ eZ) zg_17 Nat.zero_lt_one rfl zc_Mapper_197 ⟨by decide, by decide⟩ (Nat.zero_le _) (Nat.zero_le _) rfl rfl (Nat.le_of_ble_eq_true rfl) dd_Mapper_byMethod_47 (fun r4 => ?_)
  refine zx_goto E 60 dd_Mapper_byMethod_50 rfl ?_
  exact zx_lret E rfl rfl dd_Mapper_byMethod_60
