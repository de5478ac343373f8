/-! walks (printed by gen.py) -/
set_option maxHeartbeats 4000000 in
set_option maxRecDepth 20000 in
theorem zj_Ref_isTrue_76 {B : zx_B} (E : zx_E B zm_Ref_isTrue) (h : zx_H)   : zx_X B zm_Ref_isTrue (zx_QM B (fun r => ((some (Value.int (zx_b r)) : Option Value), h))) (zs_Ref_isTrue_J76 h  ) 0 0 76 [] [] h := by
  unfold zs_Ref_isTrue_J76
  refine zx_iconst E (0 : Int32) dd_Ref_isTrue_76 (by decide) ?_
  exact zx_zret E false rfl rfl rfl dd_Ref_isTrue_77
set_option maxHeartbeats 4000000 in
set_option maxRecDepth 20000 in
theorem zt_Ref_isTrue (l : Launch) (K : zx_K) (a1 : Int32) (h : zx_H) (r : Bool) (hf : zs_Ref_isTrue a1 h = some r) : zx_MR l zm_Ref_isTrue zy_Ref_isTrue K [zx_rV K 24 0, .int a1] h (some (.int (zx_b r))) h := by
  refine zx_ofM (M := zm_Ref_isTrue) (y := zy_Ref_isTrue) (r := r) (as := [zx_rV K 24 0, .int a1]) (ρ := (fun r => ((some (Value.int (zx_b r)) : Option Value), h))) (by decide) rfl hf (Nat.le_of_ble_eq_true rfl) ?_
  intro B hl hK E
  subst hK
  subst hl
  show zx_X B zm_Ref_isTrue _ _ 0 0 0 [(0, zx_rV (zx_BK B) 24 0), (1, .int a1)] [] h
  unfold zs_Ref_isTrue
  refine zx_aload_n E 0 dd_Ref_isTrue_0 rfl rfl ?_
  refine zx_getR E 41 0 zd_Ref_count zg_24 Nat.zero_lt_one (zr_Ref_count _) zw_1132 dd_Ref_isTrue_1 ?_
  refine zx_iload_n E 1 dd_Ref_isTrue_4 rfl rfl ?_
  refine zx_iald E zg_41 Nat.zero_lt_one dd_Ref_isTrue_5 ?_
  refine zx_iconst E (4 : Int32) dd_Ref_isTrue_6 (by decide) ?_
  refine zx_icmp_ne E 76 dd_Ref_isTrue_7 rfl ?_ ?_
  rotate_left
  · refine zx_sub [] rfl ?_
    exact zj_Ref_isTrue_76 E h
  refine zx_aload_n E 0 dd_Ref_isTrue_10 rfl rfl ?_
  refine zx_getR E 43 0 zd_Ref_characters zg_24 Nat.zero_lt_one (zr_Ref_characters _) zw_1134 dd_Ref_isTrue_11 ?_
  refine zx_bipush E (24 : Int32) dd_Ref_isTrue_14 (by decide) ?_
  refine zx_iload_n E 1 dd_Ref_isTrue_16 rfl rfl ?_
  refine zx_imul E dd_Ref_isTrue_17 ?_
  refine zx_iald E zg_43 Nat.zero_lt_one dd_Ref_isTrue_18 ?_
  refine zx_bipush E (116 : Int32) dd_Ref_isTrue_19 (by decide) ?_
  refine zx_icmp_ne E 76 dd_Ref_isTrue_21 rfl ?_ ?_
  rotate_left
  · refine zx_sub [] rfl ?_
    exact zj_Ref_isTrue_76 E h
  refine zx_aload_n E 0 dd_Ref_isTrue_24 rfl rfl ?_
  refine zx_getR E 43 0 zd_Ref_characters zg_24 Nat.zero_lt_one (zr_Ref_characters _) zw_1134 dd_Ref_isTrue_25 ?_
  refine zx_bipush E (24 : Int32) dd_Ref_isTrue_28 (by decide) ?_
  refine zx_iload_n E 1 dd_Ref_isTrue_30 rfl rfl ?_
  refine zx_imul E dd_Ref_isTrue_31 ?_
  refine zx_iconst E (1 : Int32) dd_Ref_isTrue_32 (by decide) ?_
  refine zx_iadd E dd_Ref_isTrue_33 ?_
  refine zx_iald E zg_43 Nat.zero_lt_one dd_Ref_isTrue_34 ?_
  refine zx_bipush E (114 : Int32) dd_Ref_isTrue_35 (by decide) ?_
  refine zx_icmp_ne E 76 dd_Ref_isTrue_37 rfl ?_ ?_
  rotate_left
  · refine zx_sub [] rfl ?_
    exact zj_Ref_isTrue_76 E h
  refine zx_aload_n E 0 dd_Ref_isTrue_40 rfl rfl ?_
  refine zx_getR E 43 0 zd_Ref_characters zg_24 Nat.zero_lt_one (zr_Ref_characters _) zw_1134 dd_Ref_isTrue_41 ?_
  refine zx_bipush E (24 : Int32) dd_Ref_isTrue_44 (by decide) ?_
  refine zx_iload_n E 1 dd_Ref_isTrue_46 rfl rfl ?_
  refine zx_imul E dd_Ref_isTrue_47 ?_
  refine zx_iconst E (2 : Int32) dd_Ref_isTrue_48 (by decide) ?_
  refine zx_iadd E dd_Ref_isTrue_49 ?_
  refine zx_iald E zg_43 Nat.zero_lt_one dd_Ref_isTrue_50 ?_
  refine zx_bipush E (117 : Int32) dd_Ref_isTrue_51 (by decide) ?_
  refine zx_icmp_ne E 76 dd_Ref_isTrue_53 rfl ?_ ?_
  rotate_left
  · refine zx_sub [] rfl ?_
    exact zj_Ref_isTrue_76 E h
  refine zx_aload_n E 0 dd_Ref_isTrue_56 rfl rfl ?_
  refine zx_getR E 43 0 zd_Ref_characters zg_24 Nat.zero_lt_one (zr_Ref_characters _) zw_1134 dd_Ref_isTrue_57 ?_
  refine zx_bipush E (24 : Int32) dd_Ref_isTrue_60 (by decide) ?_
  refine zx_iload_n E 1 dd_Ref_isTrue_62 rfl rfl ?_
  refine zx_imul E dd_Ref_isTrue_63 ?_
  refine zx_iconst E (3 : Int32) dd_Ref_isTrue_64 (by decide) ?_
  refine zx_iadd E dd_Ref_isTrue_65 ?_
  refine zx_iald E zg_43 Nat.zero_lt_one dd_Ref_isTrue_66 ?_
  refine zx_bipush E (101 : Int32) dd_Ref_isTrue_67 (by decide) ?_
  refine zx_icmp_ne E 76 dd_Ref_isTrue_69 rfl ?_ ?_
  rotate_left
  · refine zx_sub [] rfl ?_
    exact zj_Ref_isTrue_76 E h
  refine zx_iconst E (1 : Int32) dd_Ref_isTrue_72 (by decide) ?_
  refine zx_goto E 77 dd_Ref_isTrue_73 rfl ?_
  exact zx_zret E true rfl rfl rfl dd_Ref_isTrue_77
set_option maxHeartbeats 4000000 in
set_option maxRecDepth 20000 in
theorem zj_Ref_numberOf_184 {B : zx_B} (E : zx_E B zm_Ref_numberOf) (k69 : (Int32 → Int32 → Int32 → Bool → Int32 → Int64 → zx_H → Option (Int64 × zx_H))) (hk69 : ∀ (x1 : Int32) (x2 : Int32) (x3 : Int32) (x4 : Bool) (x5 : Int32) (x6 : Int64) (h : zx_H), zx_X B zm_Ref_numberOf (zx_QM B (fun r => ((some (Value.long r.1) : Option Value), r.2))) (k69 x1 x2 x3 x4 x5 x6 h) 0 0 69 [(0, zx_rV (zx_BK B) 24 0), (1, .int x1), (2, .int x2), (3, .int x3), (4, .int (zx_b x4)), (5, .int x5), (6, .long x6)] [] h) (x1 : Int32) (x2 : Int32) (x3 : Int32) (x4 : Bool) (x5 : Int32) (s0 : Int64) (h : zx_H) : zx_X B zm_Ref_numberOf (zx_QM B (fun r => ((some (Value.long r.1) : Option Value), r.2))) (zs_Ref_numberOf_J184 k69 x1 x2 x3 x4 x5 s0 h) 0 0 184 [(0, zx_rV (zx_BK B) 24 0), (1, .int x1), (2, .int x2), (3, .int x3), (4, .int (zx_b x4)), (5, .int x5)] [.long s0] h := by
  unfold zs_Ref_numberOf_J184
  refine zx_lstore E (lv1 := [(6, .long s0), (0, zx_rV (zx_BK B) 24 0), (1, .int x1), (2, .int x2), (3, .int x3), (4, .int (zx_b x4)), (5, .int x5)]) dd_Ref_numberOf_184 (by decide) rfl ?_
  refine zx_iinc E 6 (x5 + (1 : Int32)) (lv1 := [(5, .int (x5 + (1 : Int32))), (6, .long s0), (0, zx_rV (zx_BK B) 24 0), (1, .int x1), (2, .int x2), (3, .int x3), (4, .int (zx_b x4))]) dd_Ref_numberOf_186 rfl rfl (by decide) rfl ?_
  refine zx_goto E 69 dd_Ref_numberOf_189 rfl ?_
  refine zx_sub [2, 3, 4, 5, 6, 0, 1] rfl ?_
  exact hk69 x1 x2 x3 x4 (x5 + (1 : Int32)) s0 h
set_option maxHeartbeats 4000000 in
set_option maxRecDepth 20000 in
theorem zj_Ref_numberOf_162 {B : zx_B} (E : zx_E B zm_Ref_numberOf) (k69 : (Int32 → Int32 → Int32 → Bool → Int32 → Int64 → zx_H → Option (Int64 × zx_H))) (hk69 : ∀ (x1 : Int32) (x2 : Int32) (x3 : Int32) (x4 : Bool) (x5 : Int32) (x6 : Int64) (h : zx_H), zx_X B zm_Ref_numberOf (zx_QM B (fun r => ((some (Value.long r.1) : Option Value), r.2))) (k69 x1 x2 x3 x4 x5 x6 h) 0 0 69 [(0, zx_rV (zx_BK B) 24 0), (1, .int x1), (2, .int x2), (3, .int x3), (4, .int (zx_b x4)), (5, .int x5), (6, .long x6)] [] h) (x1 : Int32) (x2 : Int32) (x3 : Int32) (x4 : Bool) (x5 : Int32) (x6 : Int64) (x8 : Int32) (x9 : Bool) (s1 : Bool) (h : zx_H) : zx_X B zm_Ref_numberOf (zx_QM B (fun r => ((some (Value.long r.1) : Option Value), r.2))) (zs_Ref_numberOf_J162 k69 x1 x2 x3 x4 x5 x6 x8 x9 s1 h) 0 0 162 [(0, zx_rV (zx_BK B) 24 0), (1, .int x1), (2, .int x2), (3, .int x3), (4, .int (zx_b x4)), (5, .int x5), (6, .long x6), (8, .int x8), (9, .int (zx_b x9))] [.int (zx_b s1), zx_rV (zx_BK B) 24 0] h := by
  unfold zs_Ref_numberOf_J162
  refine zx_putI E zd_Ref_failed zp_Ref_failed zg_24 Nat.zero_lt_one (zx_nb _) (zx_fb _) zw_1144 dd_Ref_numberOf_162 ?_
  refine zx_letH (fun h1 => ?_)
  refine zx_iload E 8 dd_Ref_numberOf_165 rfl ?_
  refine zx_ifb_eq E (x := x9) 183 dd_Ref_numberOf_167 rfl ?_ ?_
  rotate_left
  · refine zx_lconst E (0 : Int64) dd_Ref_numberOf_183 rfl ?_
    refine zx_sub [0, 1, 2, 3, 4, 5] rfl ?_
    exact zj_Ref_numberOf_184 E k69 hk69 x1 x2 x3 x4 x5 (0 : Int64) h1
  refine zx_ldc2 E (10 : Int64) zw_1466 dd_Ref_numberOf_170 ?_
  refine zx_lload E 6 dd_Ref_numberOf_173 rfl ?_
  refine zx_lmul E dd_Ref_numberOf_175 ?_
  refine zx_iload E 7 dd_Ref_numberOf_176 rfl ?_
  refine zx_i2l E dd_Ref_numberOf_178 ?_
  refine zx_lsub E dd_Ref_numberOf_179 ?_
  refine zx_goto E 184 dd_Ref_numberOf_180 rfl ?_
  refine zx_sub [0, 1, 2, 3, 4, 5] rfl ?_
  exact zj_Ref_numberOf_184 E k69 hk69 x1 x2 x3 x4 x5 (((10 : Int64) * x6) - (x8.toInt64)) h1
set_option maxHeartbeats 4000000 in
set_option maxRecDepth 20000 in
theorem zj_Ref_numberOf_157 {B : zx_B} (E : zx_E B zm_Ref_numberOf) (k69 : (Int32 → Int32 → Int32 → Bool → Int32 → Int64 → zx_H → Option (Int64 × zx_H))) (hk69 : ∀ (x1 : Int32) (x2 : Int32) (x3 : Int32) (x4 : Bool) (x5 : Int32) (x6 : Int64) (h : zx_H), zx_X B zm_Ref_numberOf (zx_QM B (fun r => ((some (Value.long r.1) : Option Value), r.2))) (k69 x1 x2 x3 x4 x5 x6 h) 0 0 69 [(0, zx_rV (zx_BK B) 24 0), (1, .int x1), (2, .int x2), (3, .int x3), (4, .int (zx_b x4)), (5, .int x5), (6, .long x6)] [] h) (x1 : Int32) (x2 : Int32) (x3 : Int32) (x4 : Bool) (x5 : Int32) (x6 : Int64) (x8 : Int32) (x9 : Bool) (h : zx_H) : zx_X B zm_Ref_numberOf (zx_QM B (fun r => ((some (Value.long r.1) : Option Value), r.2))) (zs_Ref_numberOf_J157 k69 x1 x2 x3 x4 x5 x6 x8 x9 h) 0 0 157 [(0, zx_rV (zx_BK B) 24 0), (1, .int x1), (2, .int x2), (3, .int x3), (4, .int (zx_b x4)), (5, .int x5), (6, .long x6), (8, .int x8), (9, .int (zx_b x9))] [zx_rV (zx_BK B) 24 0] h := by
  unfold zs_Ref_numberOf_J157
  refine zx_iconst E (1 : Int32) dd_Ref_numberOf_157 (by decide) ?_
  refine zx_goto E 162 dd_Ref_numberOf_158 rfl ?_
  exact zj_Ref_numberOf_162 E k69 hk69 x1 x2 x3 x4 x5 x6 x8 x9 true h
set_option maxHeartbeats 4000000 in
set_option maxRecDepth 20000 in
theorem zj_Ref_numberOf_142 {B : zx_B} (E : zx_E B zm_Ref_numberOf) (k69 : (Int32 → Int32 → Int32 → Bool → Int32 → Int64 → zx_H → Option (Int64 × zx_H))) (hk69 : ∀ (x1 : Int32) (x2 : Int32) (x3 : Int32) (x4 : Bool) (x5 : Int32) (x6 : Int64) (h : zx_H), zx_X B zm_Ref_numberOf (zx_QM B (fun r => ((some (Value.long r.1) : Option Value), r.2))) (k69 x1 x2 x3 x4 x5 x6 h) 0 0 69 [(0, zx_rV (zx_BK B) 24 0), (1, .int x1), (2, .int x2), (3, .int x3), (4, .int (zx_b x4)), (5, .int x5), (6, .long x6)] [] h) (x1 : Int32) (x2 : Int32) (x3 : Int32) (x4 : Bool) (x5 : Int32) (x6 : Int64) (x8 : Int32) (s0 : Bool) (h : zx_H) : zx_X B zm_Ref_numberOf (zx_QM B (fun r => ((some (Value.long r.1) : Option Value), r.2))) (zs_Ref_numberOf_J142 k69 x1 x2 x3 x4 x5 x6 x8 s0 h) 0 0 142 [(0, zx_rV (zx_BK B) 24 0), (1, .int x1), (2, .int x2), (3, .int x3), (4, .int (zx_b x4)), (5, .int x5), (6, .long x6), (8, .int x8)] [.int (zx_b s0)] h := by
  unfold zs_Ref_numberOf_J142
  refine zx_istore E (lv1 := [(9, .int (zx_b s0)), (0, zx_rV (zx_BK B) 24 0), (1, .int x1), (2, .int x2), (3, .int x3), (4, .int (zx_b x4)), (5, .int x5), (6, .long x6), (8, .int x8)]) dd_Ref_numberOf_142 (by decide) rfl ?_
  refine zx_aload_n E 1 dd_Ref_numberOf_144 rfl rfl ?_
  refine zx_aload_n E 1 dd_Ref_numberOf_145 rfl rfl ?_
  refine zx_getI E zd_Ref_failed zg_24 Nat.zero_lt_one zw_1144 dd_Ref_numberOf_146 ?_
  refine zx_if_ne E 157 dd_Ref_numberOf_149 rfl ?_ ?_
  rotate_left
  · refine zx_sub [1, 2, 3, 4, 5, 6, 7, 8, 0] rfl ?_
    exact zj_Ref_numberOf_157 E k69 hk69 x1 x2 x3 x4 x5 x6 x8 s0 h
  refine zx_iload E 0 dd_Ref_numberOf_152 rfl ?_
  refine zx_ifb_ne E (x := s0) 161 dd_Ref_numberOf_154 rfl ?_ ?_
  · refine zx_sub [1, 2, 3, 4, 5, 6, 7, 8, 0] rfl ?_
    exact zj_Ref_numberOf_157 E k69 hk69 x1 x2 x3 x4 x5 x6 x8 s0 h
  refine zx_iconst E (0 : Int32) dd_Ref_numberOf_161 (by decide) ?_
  refine zx_sub [1, 2, 3, 4, 5, 6, 7, 8, 0] rfl ?_
  exact zj_Ref_numberOf_162 E k69 hk69 x1 x2 x3 x4 x5 x6 x8 s0 false h
set_option maxHeartbeats 4000000 in
set_option maxRecDepth 20000 in
theorem zj_Ref_numberOf_141 {B : zx_B} (E : zx_E B zm_Ref_numberOf) (k69 : (Int32 → Int32 → Int32 → Bool → Int32 → Int64 → zx_H → Option (Int64 × zx_H))) (hk69 : ∀ (x1 : Int32) (x2 : Int32) (x3 : Int32) (x4 : Bool) (x5 : Int32) (x6 : Int64) (h : zx_H), zx_X B zm_Ref_numberOf (zx_QM B (fun r => ((some (Value.long r.1) : Option Value), r.2))) (k69 x1 x2 x3 x4 x5 x6 h) 0 0 69 [(0, zx_rV (zx_BK B) 24 0), (1, .int x1), (2, .int x2), (3, .int x3), (4, .int (zx_b x4)), (5, .int x5), (6, .long x6)] [] h) (x1 : Int32) (x2 : Int32) (x3 : Int32) (x4 : Bool) (x5 : Int32) (x6 : Int64) (x8 : Int32) (h : zx_H) : zx_X B zm_Ref_numberOf (zx_QM B (fun r => ((some (Value.long r.1) : Option Value), r.2))) (zs_Ref_numberOf_J141 k69 x1 x2 x3 x4 x5 x6 x8 h) 0 0 141 [(0, zx_rV (zx_BK B) 24 0), (1, .int x1), (2, .int x2), (3, .int x3), (4, .int (zx_b x4)), (5, .int x5), (6, .long x6), (8, .int x8)] [] h := by
  unfold zs_Ref_numberOf_J141
  refine zx_iconst E (0 : Int32) dd_Ref_numberOf_141 (by decide) ?_
  exact zj_Ref_numberOf_142 E k69 hk69 x1 x2 x3 x4 x5 x6 x8 false h
set_option maxHeartbeats 4000000 in
set_option maxRecDepth 20000 in
theorem zj_Ref_numberOf_127 {B : zx_B} (E : zx_E B zm_Ref_numberOf) (k69 : (Int32 → Int32 → Int32 → Bool → Int32 → Int64 → zx_H → Option (Int64 × zx_H))) (hk69 : ∀ (x1 : Int32) (x2 : Int32) (x3 : Int32) (x4 : Bool) (x5 : Int32) (x6 : Int64) (h : zx_H), zx_X B zm_Ref_numberOf (zx_QM B (fun r => ((some (Value.long r.1) : Option Value), r.2))) (k69 x1 x2 x3 x4 x5 x6 h) 0 0 69 [(0, zx_rV (zx_BK B) 24 0), (1, .int x1), (2, .int x2), (3, .int x3), (4, .int (zx_b x4)), (5, .int x5), (6, .long x6)] [] h) (x1 : Int32) (x2 : Int32) (x3 : Int32) (x4 : Bool) (x5 : Int32) (x6 : Int64) (x8 : Int32) (s0 : Int64) (s1 : Int64) (s2 : Int32) (h : zx_H) : zx_X B zm_Ref_numberOf (zx_QM B (fun r => ((some (Value.long r.1) : Option Value), r.2))) (zs_Ref_numberOf_J127 k69 x1 x2 x3 x4 x5 x6 x8 s0 s1 s2 h) 0 0 127 [(0, zx_rV (zx_BK B) 24 0), (1, .int x1), (2, .int x2), (3, .int x3), (4, .int (zx_b x4)), (5, .int x5), (6, .long x6), (8, .int x8)] [.int s2, .long s1, .long s0] h := by
  unfold zs_Ref_numberOf_J127
  refine zx_i2l E dd_Ref_numberOf_127 ?_
  refine zx_ladd E dd_Ref_numberOf_128 ?_
  refine zx_ldc2 E (10 : Int64) zw_1466 dd_Ref_numberOf_129 ?_
  refine zx_ldivN E dd_Ref_numberOf_132 (by decide) ?_
  refine zx_lcmp_lt E 141 dd_Ref_numberOf_133 dd_Ref_numberOf_134 rfl ?_ ?_
  rotate_left
  · exact zj_Ref_numberOf_141 E k69 hk69 x1 x2 x3 x4 x5 x6 x8 h
  refine zx_iconst E (1 : Int32) dd_Ref_numberOf_137 (by decide) ?_
  refine zx_goto E 142 dd_Ref_numberOf_138 rfl ?_
  exact zj_Ref_numberOf_142 E k69 hk69 x1 x2 x3 x4 x5 x6 x8 true h
set_option maxHeartbeats 4000000 in
set_option maxRecDepth 20000 in
theorem zj_Ref_numberOf_121 {B : zx_B} (E : zx_E B zm_Ref_numberOf) (k69 : (Int32 → Int32 → Int32 → Bool → Int32 → Int64 → zx_H → Option (Int64 × zx_H))) (hk69 : ∀ (x1 : Int32) (x2 : Int32) (x3 : Int32) (x4 : Bool) (x5 : Int32) (x6 : Int64) (h : zx_H), zx_X B zm_Ref_numberOf (zx_QM B (fun r => ((some (Value.long r.1) : Option Value), r.2))) (k69 x1 x2 x3 x4 x5 x6 h) 0 0 69 [(0, zx_rV (zx_BK B) 24 0), (1, .int x1), (2, .int x2), (3, .int x3), (4, .int (zx_b x4)), (5, .int x5), (6, .long x6)] [] h) (x1 : Int32) (x2 : Int32) (x3 : Int32) (x4 : Bool) (x5 : Int32) (x6 : Int64) (x8 : Int32) (s0 : Int64) (s1 : Int64) (h : zx_H) : zx_X B zm_Ref_numberOf (zx_QM B (fun r => ((some (Value.long r.1) : Option Value), r.2))) (zs_Ref_numberOf_J121 k69 x1 x2 x3 x4 x5 x6 x8 s0 s1 h) 0 0 121 [(0, zx_rV (zx_BK B) 24 0), (1, .int x1), (2, .int x2), (3, .int x3), (4, .int (zx_b x4)), (5, .int x5), (6, .long x6), (8, .int x8)] [.long s1, .long s0] h := by
  unfold zs_Ref_numberOf_J121
  refine zx_iconst E (0 : Int32) dd_Ref_numberOf_121 (by decide) ?_
  refine zx_goto E 127 dd_Ref_numberOf_122 rfl ?_
  exact zj_Ref_numberOf_127 E k69 hk69 x1 x2 x3 x4 x5 x6 x8 s0 s1 (0 : Int32) h
set_option maxHeartbeats 4000000 in
set_option maxRecDepth 20000 in
theorem zj_Ref_numberOf_257 {B : zx_B} (E : zx_E B zm_Ref_numberOf)  (x6 : Int64) (h : zx_H) : zx_X B zm_Ref_numberOf (zx_QM B (fun r => ((some (Value.long r.1) : Option Value), r.2))) (zs_Ref_numberOf_J257  x6 h) 0 0 257 [(6, .long x6)] [zx_rV (zx_BK B) 24 0] h := by
  unfold zs_Ref_numberOf_J257
  refine zx_iconst E (1 : Int32) dd_Ref_numberOf_257 (by decide) ?_
  refine zx_goto E 262 dd_Ref_numberOf_258 rfl ?_
  refine zx_putI E zd_Ref_failed zp_Ref_failed zg_24 Nat.zero_lt_one rfl rfl zw_1144 dd_Ref_numberOf_262 ?_
  refine zx_letH (fun h1 => ?_)
  refine zx_lload E 0 dd_Ref_numberOf_265 rfl ?_
  exact zx_lret E rfl rfl dd_Ref_numberOf_267
set_option maxHeartbeats 4000000 in
set_option maxRecDepth 20000 in
theorem zj_Ref_numberOf_235 {B : zx_B} (E : zx_E B zm_Ref_numberOf)  (x2 : Int32) (s0 : Int64) (h : zx_H) : zx_X B zm_Ref_numberOf (zx_QM B (fun r => ((some (Value.long r.1) : Option Value), r.2))) (zs_Ref_numberOf_J235  x2 s0 h) 0 0 235 [(0, zx_rV (zx_BK B) 24 0), (2, .int x2)] [.long s0] h := by
  unfold zs_Ref_numberOf_J235
  refine zx_lstore E (lv1 := [(6, .long s0), (0, zx_rV (zx_BK B) 24 0), (2, .int x2)]) dd_Ref_numberOf_235 (by decide) rfl ?_
  refine zx_aload_n E 1 dd_Ref_numberOf_237 rfl rfl ?_
  refine zx_aload_n E 1 dd_Ref_numberOf_238 rfl rfl ?_
  refine zx_getI E zd_Ref_failed zg_24 Nat.zero_lt_one zw_1144 dd_Ref_numberOf_239 ?_
  refine zx_if_ne E 257 dd_Ref_numberOf_242 rfl ?_ ?_
  rotate_left
  · refine zx_sub [0] rfl ?_
    exact zj_Ref_numberOf_257 E s0 h
  refine zx_lload E 0 dd_Ref_numberOf_245 rfl ?_
  refine zx_lload E 0 dd_Ref_numberOf_247 rfl ?_
  refine zx_iload_n E 2 dd_Ref_numberOf_249 rfl rfl ?_
  refine zx_callS_l E [.long s0, .int x2] (fun rZ eZ => zt_Ref_cast _ _ s0 x2 h _ eZ) zc_Ref_224 ⟨by decide, by decide⟩ (Nat.zero_le _) (Nat.zero_le _) rfl rfl (Nat.le_of_ble_eq_true rfl) dd_Ref_numberOf_250 (fun r1 => ?_)
  refine zx_lcmp_eq E 261 dd_Ref_numberOf_253 dd_Ref_numberOf_254 rfl ?_ ?_
  · refine zx_sub [0] rfl ?_
    exact zj_Ref_numberOf_257 E s0 h
  refine zx_iconst E (0 : Int32) dd_Ref_numberOf_261 (by decide) ?_
  refine zx_putI E zd_Ref_failed zp_Ref_failed zg_24 Nat.zero_lt_one rfl rfl zw_1144 dd_Ref_numberOf_262 ?_
  refine zx_letH (fun h2 => ?_)
  refine zx_lload E 0 dd_Ref_numberOf_265 rfl ?_
  exact zx_lret E rfl rfl dd_Ref_numberOf_267
set_option maxHeartbeats 4000000 in
set_option maxRecDepth 20000 in
theorem zj_Ref_numberOf_219 {B : zx_B} (E : zx_E B zm_Ref_numberOf)  (x2 : Int32) (x4 : Bool) (x6 : Int64) (s1 : Bool) (h : zx_H) : zx_X B zm_Ref_numberOf (zx_QM B (fun r => ((some (Value.long r.1) : Option Value), r.2))) (zs_Ref_numberOf_J219  x2 x4 x6 s1 h) 0 0 219 [(0, zx_rV (zx_BK B) 24 0), (2, .int x2), (4, .int (zx_b x4)), (6, .long x6)] [.int (zx_b s1), zx_rV (zx_BK B) 24 0] h := by
  unfold zs_Ref_numberOf_J219
  refine zx_putI E zd_Ref_failed zp_Ref_failed zg_24 Nat.zero_lt_one (zx_nb _) (zx_fb _) zw_1144 dd_Ref_numberOf_219 ?_
  refine zx_letH (fun h1 => ?_)
  refine zx_iload E 2 dd_Ref_numberOf_222 rfl ?_
  refine zx_ifb_eq E (x := x4) 232 dd_Ref_numberOf_224 rfl ?_ ?_
  · refine zx_lload E 3 dd_Ref_numberOf_227 rfl ?_
    refine zx_goto E 235 dd_Ref_numberOf_229 rfl ?_
    refine zx_sub [0, 1] rfl ?_
    exact zj_Ref_numberOf_235 E x2 x6 h1
  refine zx_lload E 3 dd_Ref_numberOf_232 rfl ?_
  refine zx_lneg E dd_Ref_numberOf_234 ?_
  refine zx_sub [0, 1] rfl ?_
  exact zj_Ref_numberOf_235 E x2 (-x6) h1
set_option maxHeartbeats 4000000 in
set_option maxRecDepth 20000 in
theorem zj_Ref_numberOf_214 {B : zx_B} (E : zx_E B zm_Ref_numberOf)  (x2 : Int32) (x4 : Bool) (x6 : Int64) (h : zx_H) : zx_X B zm_Ref_numberOf (zx_QM B (fun r => ((some (Value.long r.1) : Option Value), r.2))) (zs_Ref_numberOf_J214  x2 x4 x6 h) 0 0 214 [(0, zx_rV (zx_BK B) 24 0), (2, .int x2), (4, .int (zx_b x4)), (6, .long x6)] [zx_rV (zx_BK B) 24 0] h := by
  unfold zs_Ref_numberOf_J214
  refine zx_iconst E (1 : Int32) dd_Ref_numberOf_214 (by decide) ?_
  refine zx_goto E 219 dd_Ref_numberOf_215 rfl ?_
  exact zj_Ref_numberOf_219 E x2 x4 x6 true h
set_option maxHeartbeats 4000000 in
set_option maxRecDepth 20000 in
theorem zj_Ref_numberOf_218 {B : zx_B} (E : zx_E B zm_Ref_numberOf)  (x2 : Int32) (x4 : Bool) (x6 : Int64) (h : zx_H) : zx_X B zm_Ref_numberOf (zx_QM B (fun r => ((some (Value.long r.1) : Option Value), r.2))) (zs_Ref_numberOf_J218  x2 x4 x6 h) 0 0 218 [(0, zx_rV (zx_BK B) 24 0), (2, .int x2), (4, .int (zx_b x4)), (6, .long x6)] [zx_rV (zx_BK B) 24 0] h := by
  unfold zs_Ref_numberOf_J218
  refine zx_iconst E (0 : Int32) dd_Ref_numberOf_218 (by decide) ?_
  exact zj_Ref_numberOf_219 E x2 x4 x6 false h
set_option maxHeartbeats 4000000 in
set_option maxRecDepth 20000 in
theorem zb_Ref_numberOf_69 {B : zx_B} (E : zx_E B zm_Ref_numberOf)  (k69 : (Int32 → Int32 → Int32 → Bool → Int32 → Int64 → zx_H → Option (Int64 × zx_H))) (hk69 : ∀ (x1 : Int32) (x2 : Int32) (x3 : Int32) (x4 : Bool) (x5 : Int32) (x6 : Int64) (h : zx_H), zx_X B zm_Ref_numberOf (zx_QM B (fun r => ((some (Value.long r.1) : Option Value), r.2))) (k69 x1 x2 x3 x4 x5 x6 h) 0 0 69 [(0, zx_rV (zx_BK B) 24 0), (1, .int x1), (2, .int x2), (3, .int x3), (4, .int (zx_b x4)), (5, .int x5), (6, .long x6)] [] h) (x1 : Int32) (x2 : Int32) (x3 : Int32) (x4 : Bool) (x5 : Int32) (x6 : Int64) (h : zx_H) : zx_X B zm_Ref_numberOf (zx_QM B (fun r => ((some (Value.long r.1) : Option Value), r.2))) (zs_Ref_numberOf_L69_body  k69 x1 x2 x3 x4 x5 x6 h) 0 0 69 [(0, zx_rV (zx_BK B) 24 0), (1, .int x1), (2, .int x2), (3, .int x3), (4, .int (zx_b x4)), (5, .int x5), (6, .long x6)] [] h := by
  unfold zs_Ref_numberOf_L69_body
  refine zx_iload E 5 dd_Ref_numberOf_69 rfl ?_
  refine zx_iload_n E 3 dd_Ref_numberOf_71 rfl rfl ?_
  refine zx_icmp_ge E 192 dd_Ref_numberOf_72 rfl ?_ ?_
  rotate_left
  · refine zx_aload_n E 0 dd_Ref_numberOf_192 rfl rfl ?_
    refine zx_aload_n E 0 dd_Ref_numberOf_193 rfl rfl ?_
    refine zx_getI E zd_Ref_failed zg_24 Nat.zero_lt_one zw_1144 dd_Ref_numberOf_194 ?_
    refine zx_if_ne E 214 dd_Ref_numberOf_197 rfl ?_ ?_
    rotate_left
    · refine zx_sub [0, 2, 4, 6] rfl ?_
      exact zj_Ref_numberOf_214 E x2 x4 x6 h
    refine zx_iload E 4 dd_Ref_numberOf_200 rfl ?_
    refine zx_ifb_ne E (x := x4) 218 dd_Ref_numberOf_202 rfl ?_ ?_
    rotate_left
    · refine zx_sub [0, 2, 4, 6] rfl ?_
      exact zj_Ref_numberOf_218 E x2 x4 x6 h
    refine zx_lload E 6 dd_Ref_numberOf_205 rfl ?_
    refine zx_ldc2 E (-9223372036854775808 : Int64) zw_1445 dd_Ref_numberOf_207 ?_
    refine zx_lcmp_ne E 218 dd_Ref_numberOf_210 dd_Ref_numberOf_211 rfl ?_ ?_
    · refine zx_sub [0, 2, 4, 6] rfl ?_
      exact zj_Ref_numberOf_214 E x2 x4 x6 h
    refine zx_sub [0, 2, 4, 6] rfl ?_
    exact zj_Ref_numberOf_218 E x2 x4 x6 h
  refine zx_aload_n E 0 dd_Ref_numberOf_75 rfl rfl ?_
  refine zx_getR E 43 0 zd_Ref_characters zg_24 Nat.zero_lt_one (zr_Ref_characters _) zw_1134 dd_Ref_numberOf_76 ?_
  refine zx_bipush E (24 : Int32) dd_Ref_numberOf_79 (by decide) ?_
  refine zx_iload_n E 1 dd_Ref_numberOf_81 rfl rfl ?_
  refine zx_imul E dd_Ref_numberOf_82 ?_
  refine zx_iload E 5 dd_Ref_numberOf_83 rfl ?_
  refine zx_iadd E dd_Ref_numberOf_85 ?_
  refine zx_iald E zg_43 Nat.zero_lt_one dd_Ref_numberOf_86 ?_
  refine zx_bipush E (48 : Int32) dd_Ref_numberOf_87 (by decide) ?_
  refine zx_isub E dd_Ref_numberOf_89 ?_
  refine zx_leti (fun y1 => ?_)
  refine zx_istore E (lv1 := [(8, .int y1), (0, zx_rV (zx_BK B) 24 0), (1, .int x1), (2, .int x2), (3, .int x3), (4, .int (zx_b x4)), (5, .int x5), (6, .long x6)]) dd_Ref_numberOf_90 (by decide) rfl ?_
  refine zx_iload E 0 dd_Ref_numberOf_92 rfl ?_
  refine zx_if_lt E 141 dd_Ref_numberOf_94 rfl ?_ ?_
  rotate_left
  · refine zx_sub [1, 2, 3, 4, 5, 6, 7, 0] rfl ?_
    exact zj_Ref_numberOf_141 E k69 hk69 x1 x2 x3 x4 x5 x6 y1 h
  refine zx_iload E 0 dd_Ref_numberOf_97 rfl ?_
  refine zx_bipush E (10 : Int32) dd_Ref_numberOf_99 (by decide) ?_
  refine zx_icmp_ge E 141 dd_Ref_numberOf_101 rfl ?_ ?_
  rotate_left
  · refine zx_sub [1, 2, 3, 4, 5, 6, 7, 0] rfl ?_
    exact zj_Ref_numberOf_141 E k69 hk69 x1 x2 x3 x4 x5 x6 y1 h
  refine zx_lload E 7 dd_Ref_numberOf_104 rfl ?_
  refine zx_ldc2 E (-9223372036854775808 : Int64) zw_1445 dd_Ref_numberOf_106 ?_
  refine zx_iload E 0 dd_Ref_numberOf_109 rfl ?_
  refine zx_bipush E (9 : Int32) dd_Ref_numberOf_111 (by decide) ?_
  refine zx_icmp_gt E 121 dd_Ref_numberOf_113 rfl ?_ ?_
  rotate_left
  · refine zx_sub [1, 2, 3, 4, 5, 6, 7, 0] rfl ?_
    exact zj_Ref_numberOf_121 E k69 hk69 x1 x2 x3 x4 x5 x6 y1 x6 (-9223372036854775808 : Int64) h
  refine zx_iload E 0 dd_Ref_numberOf_116 rfl ?_
  refine zx_if_ge E 125 dd_Ref_numberOf_118 rfl ?_ ?_
  · refine zx_sub [1, 2, 3, 4, 5, 6, 7, 0] rfl ?_
    exact zj_Ref_numberOf_121 E k69 hk69 x1 x2 x3 x4 x5 x6 y1 x6 (-9223372036854775808 : Int64) h
  refine zx_iload E 0 dd_Ref_numberOf_125 rfl ?_
  refine zx_sub [1, 2, 3, 4, 5, 6, 7, 0] rfl ?_
  exact zj_Ref_numberOf_127 E k69 hk69 x1 x2 x3 x4 x5 x6 y1 x6 (-9223372036854775808 : Int64) y1 h
theorem zj_Ref_numberOf_69 {B : zx_B} (E : zx_E B zm_Ref_numberOf)  : ∀ (x1 : Int32) (x2 : Int32) (x3 : Int32) (x4 : Bool) (x5 : Int32) (x6 : Int64) (h : zx_H), zx_X B zm_Ref_numberOf (zx_QM B (fun r => ((some (Value.long r.1) : Option Value), r.2))) (zs_Ref_numberOf_L69  x1 x2 x3 x4 x5 x6 h) 0 0 69 [(0, zx_rV (zx_BK B) 24 0), (1, .int x1), (2, .int x2), (3, .int x3), (4, .int (zx_b x4)), (5, .int x5), (6, .long x6)] [] h := by
  unfold zs_Ref_numberOf_L69
  generalize zx_fuel = n
  induction n with
  | zero => intros; exact zx_non
  | succ n ih => intro x1 x2 x3 x4 x5 x6 h; exact zb_Ref_numberOf_69 E  _ ih x1 x2 x3 x4 x5 x6 h
set_option maxHeartbeats 4000000 in
set_option maxRecDepth 20000 in
theorem zj_Ref_numberOf_63 {B : zx_B} (E : zx_E B zm_Ref_numberOf)  (x1 : Int32) (x2 : Int32) (x3 : Int32) (x4 : Bool) (x5 : Bool) (s1 : Bool) (h : zx_H) : zx_X B zm_Ref_numberOf (zx_QM B (fun r => ((some (Value.long r.1) : Option Value), r.2))) (zs_Ref_numberOf_J63  x1 x2 x3 x4 x5 s1 h) 0 0 63 [(0, zx_rV (zx_BK B) 24 0), (1, .int x1), (2, .int x2), (3, .int x3), (4, .int (zx_b x4)), (5, .int (zx_b x5))] [.int (zx_b s1), zx_rV (zx_BK B) 24 0] h := by
  unfold zs_Ref_numberOf_J63
  refine zx_putI E zd_Ref_failed zp_Ref_failed zg_24 Nat.zero_lt_one (zx_nb _) (zx_fb _) zw_1144 dd_Ref_numberOf_63 ?_
  refine zx_letH (fun h1 => ?_)
  refine zx_lconst E (0 : Int64) dd_Ref_numberOf_66 rfl ?_
  refine zx_lstore E (lv1 := [(6, .long (0 : Int64)), (0, zx_rV (zx_BK B) 24 0), (1, .int x1), (2, .int x2), (3, .int x3), (4, .int (zx_b x4)), (5, .int (zx_b x5))]) dd_Ref_numberOf_67 (by decide) rfl ?_
  refine zx_sub [1, 2, 3, 4, 5, 6, 0] rfl ?_
  exact zj_Ref_numberOf_69 E x1 x2 x3 x4 (zx_b x5) (0 : Int64) h1
set_option maxHeartbeats 4000000 in
set_option maxRecDepth 20000 in
theorem zj_Ref_numberOf_58 {B : zx_B} (E : zx_E B zm_Ref_numberOf)  (x1 : Int32) (x2 : Int32) (x3 : Int32) (x4 : Bool) (x5 : Bool) (h : zx_H) : zx_X B zm_Ref_numberOf (zx_QM B (fun r => ((some (Value.long r.1) : Option Value), r.2))) (zs_Ref_numberOf_J58  x1 x2 x3 x4 x5 h) 0 0 58 [(0, zx_rV (zx_BK B) 24 0), (1, .int x1), (2, .int x2), (3, .int x3), (4, .int (zx_b x4)), (5, .int (zx_b x5))] [zx_rV (zx_BK B) 24 0] h := by
  unfold zs_Ref_numberOf_J58
  refine zx_iconst E (1 : Int32) dd_Ref_numberOf_58 (by decide) ?_
  refine zx_goto E 63 dd_Ref_numberOf_59 rfl ?_
  exact zj_Ref_numberOf_63 E x1 x2 x3 x4 x5 true h
set_option maxHeartbeats 4000000 in
set_option maxRecDepth 20000 in
theorem zj_Ref_numberOf_42 {B : zx_B} (E : zx_E B zm_Ref_numberOf)  (x1 : Int32) (x2 : Int32) (x3 : Int32) (x4 : Bool) (s0 : Bool) (h : zx_H) : zx_X B zm_Ref_numberOf (zx_QM B (fun r => ((some (Value.long r.1) : Option Value), r.2))) (zs_Ref_numberOf_J42  x1 x2 x3 x4 s0 h) 0 0 42 [(0, zx_rV (zx_BK B) 24 0), (1, .int x1), (2, .int x2), (3, .int x3), (4, .int (zx_b x4))] [.int (zx_b s0)] h := by
  unfold zs_Ref_numberOf_J42
  refine zx_istore E (lv1 := [(5, .int (zx_b s0)), (0, zx_rV (zx_BK B) 24 0), (1, .int x1), (2, .int x2), (3, .int x3), (4, .int (zx_b x4))]) dd_Ref_numberOf_42 (by decide) rfl ?_
  refine zx_aload_n E 1 dd_Ref_numberOf_44 rfl rfl ?_
  refine zx_aload_n E 1 dd_Ref_numberOf_45 rfl rfl ?_
  refine zx_getI E zd_Ref_failed zg_24 Nat.zero_lt_one zw_1144 dd_Ref_numberOf_46 ?_
  refine zx_if_ne E 58 dd_Ref_numberOf_49 rfl ?_ ?_
  rotate_left
  · refine zx_sub [1, 2, 3, 4, 5, 0] rfl ?_
    exact zj_Ref_numberOf_58 E x1 x2 x3 x4 s0 h
  refine zx_iload E 0 dd_Ref_numberOf_52 rfl ?_
  refine zx_iload_n E 4 dd_Ref_numberOf_54 rfl rfl ?_
  refine zx_icmp_ne E 62 dd_Ref_numberOf_55 rfl ?_ ?_
  · refine zx_sub [1, 2, 3, 4, 5, 0] rfl ?_
    exact zj_Ref_numberOf_58 E x1 x2 x3 x4 s0 h
  refine zx_iconst E (0 : Int32) dd_Ref_numberOf_62 (by decide) ?_
  refine zx_sub [1, 2, 3, 4, 5, 0] rfl ?_
  exact zj_Ref_numberOf_63 E x1 x2 x3 x4 s0 false h
set_option maxHeartbeats 4000000 in
set_option maxRecDepth 20000 in
theorem zj_Ref_numberOf_30 {B : zx_B} (E : zx_E B zm_Ref_numberOf)  (x1 : Int32) (x2 : Int32) (x3 : Int32) (s0 : Bool) (h : zx_H) : zx_X B zm_Ref_numberOf (zx_QM B (fun r => ((some (Value.long r.1) : Option Value), r.2))) (zs_Ref_numberOf_J30  x1 x2 x3 s0 h) 0 0 30 [(0, zx_rV (zx_BK B) 24 0), (1, .int x1), (2, .int x2), (3, .int x3)] [.int (zx_b s0)] h := by
  unfold zs_Ref_numberOf_J30
  refine zx_istore E (lv1 := [(4, .int (zx_b s0)), (0, zx_rV (zx_BK B) 24 0), (1, .int x1), (2, .int x2), (3, .int x3)]) dd_Ref_numberOf_30 (by decide) rfl ?_
  refine zx_iload E 0 dd_Ref_numberOf_32 rfl ?_
  refine zx_ifb_eq E (x := s0) 41 dd_Ref_numberOf_34 rfl ?_ ?_
  rotate_left
  · refine zx_iconst E (0 : Int32) dd_Ref_numberOf_41 (by decide) ?_
    refine zx_sub [1, 2, 3, 4, 0] rfl ?_
    exact zj_Ref_numberOf_42 E x1 x2 x3 s0 false h
  refine zx_iconst E (1 : Int32) dd_Ref_numberOf_37 (by decide) ?_
  refine zx_goto E 42 dd_Ref_numberOf_38 rfl ?_
  refine zx_sub [1, 2, 3, 4, 0] rfl ?_
  exact zj_Ref_numberOf_42 E x1 x2 x3 s0 true h
set_option maxHeartbeats 4000000 in
set_option maxRecDepth 20000 in
theorem zj_Ref_numberOf_29 {B : zx_B} (E : zx_E B zm_Ref_numberOf)  (x1 : Int32) (x2 : Int32) (x3 : Int32) (h : zx_H) : zx_X B zm_Ref_numberOf (zx_QM B (fun r => ((some (Value.long r.1) : Option Value), r.2))) (zs_Ref_numberOf_J29  x1 x2 x3 h) 0 0 29 [(0, zx_rV (zx_BK B) 24 0), (1, .int x1), (2, .int x2), (3, .int x3)] [] h := by
  unfold zs_Ref_numberOf_J29
  refine zx_iconst E (0 : Int32) dd_Ref_numberOf_29 (by decide) ?_
  exact zj_Ref_numberOf_30 E x1 x2 x3 false h
set_option maxHeartbeats 4000000 in
set_option maxRecDepth 20000 in
theorem zt_Ref_numberOf (l : Launch) (K : zx_K) (a1 : Int32) (a2 : Int32) (h : zx_H) (r : (Int64 × zx_H)) (hf : zs_Ref_numberOf a1 a2 h = some r) : zx_MR l zm_Ref_numberOf zy_Ref_numberOf K [zx_rV K 24 0, .int a1, .int a2] h (some (.long r.1)) r.2 := by
  refine zx_ofM (M := zm_Ref_numberOf) (y := zy_Ref_numberOf) (r := r) (as := [zx_rV K 24 0, .int a1, .int a2]) (ρ := (fun r => ((some (Value.long r.1) : Option Value), r.2))) (by decide) rfl hf (Nat.le_of_ble_eq_true rfl) ?_
  intro B hl hK E
  subst hK
  subst hl
  show zx_X B zm_Ref_numberOf _ _ 0 0 0 [(0, zx_rV (zx_BK B) 24 0), (1, .int a1), (2, .int a2)] [] h
  unfold zs_Ref_numberOf
  refine zx_aload_n E 0 dd_Ref_numberOf_0 rfl rfl ?_
  refine zx_getR E 41 0 zd_Ref_count zg_24 Nat.zero_lt_one (zr_Ref_count _) zw_1132 dd_Ref_numberOf_1 ?_
  refine zx_iload_n E 1 dd_Ref_numberOf_4 rfl rfl ?_
  refine zx_iald E zg_41 Nat.zero_lt_one dd_Ref_numberOf_5 ?_
  refine zx_leti (fun y1 => ?_)
  refine zx_istore_n E (lv1 := [(3, .int y1), (0, zx_rV (zx_BK B) 24 0), (1, .int a1), (2, .int a2)]) dd_Ref_numberOf_6 rfl (by decide) rfl ?_
  refine zx_iload_n E 0 dd_Ref_numberOf_7 rfl rfl ?_
  refine zx_if_le E 29 dd_Ref_numberOf_8 rfl ?_ ?_
  rotate_left
  · refine zx_sub [1, 2, 3, 0] rfl ?_
    exact zj_Ref_numberOf_29 E a1 a2 y1 h
  refine zx_aload_n E 1 dd_Ref_numberOf_11 rfl rfl ?_
  refine zx_getR E 43 0 zd_Ref_characters zg_24 Nat.zero_lt_one (zr_Ref_characters _) zw_1134 dd_Ref_numberOf_12 ?_
  refine zx_bipush E (24 : Int32) dd_Ref_numberOf_15 (by decide) ?_
  refine zx_iload_n E 2 dd_Ref_numberOf_17 rfl rfl ?_
  refine zx_imul E dd_Ref_numberOf_18 ?_
  refine zx_iald E zg_43 Nat.zero_lt_one dd_Ref_numberOf_19 ?_
  refine zx_bipush E (45 : Int32) dd_Ref_numberOf_20 (by decide) ?_
  refine zx_icmp_ne E 29 dd_Ref_numberOf_22 rfl ?_ ?_
  rotate_left
  · refine zx_sub [1, 2, 3, 0] rfl ?_
    exact zj_Ref_numberOf_29 E a1 a2 y1 h
  refine zx_iconst E (1 : Int32) dd_Ref_numberOf_25 (by decide) ?_
  refine zx_goto E 30 dd_Ref_numberOf_26 rfl ?_
  refine zx_sub [1, 2, 3, 0] rfl ?_
  exact zj_Ref_numberOf_30 E a1 a2 y1 true h
set_option maxHeartbeats 4000000 in
set_option maxRecDepth 20000 in
theorem zj_Ref_fromText_47 {B : zx_B} (E : zx_E B zm_Ref_fromText)  (x1 : Int32) (s1 : Bool) (h : zx_H) : zx_X B zm_Ref_fromText (zx_QM B (fun r => ((some (Value.long r.1) : Option Value), r.2))) (zs_Ref_fromText_J47  x1 s1 h) 0 0 47 [(0, zx_rV (zx_BK B) 24 0), (1, .int x1)] [.int (zx_b s1), zx_rV (zx_BK B) 24 0] h := by
  unfold zs_Ref_fromText_J47
  refine zx_putI E zd_Ref_failed zp_Ref_failed zg_24 Nat.zero_lt_one (zx_nb _) (zx_fb _) zw_1144 dd_Ref_fromText_47 ?_
  refine zx_letH (fun h1 => ?_)
  refine zx_aload_n E 0 dd_Ref_fromText_50 rfl rfl ?_
  refine zx_getR E 43 0 zd_Ref_characters zg_24 Nat.zero_lt_one (zr_Ref_characters _) zw_1134 dd_Ref_fromText_51 ?_
  refine zx_bipush E (24 : Int32) dd_Ref_fromText_54 (by decide) ?_
  refine zx_iload_n E 1 dd_Ref_fromText_56 rfl rfl ?_
  refine zx_imul E dd_Ref_fromText_57 ?_
  refine zx_iald E zg_43 Nat.zero_lt_one dd_Ref_fromText_58 ?_
  refine zx_i2l E dd_Ref_fromText_59 ?_
  exact zx_lret E rfl rfl dd_Ref_fromText_60
set_option maxHeartbeats 4000000 in
set_option maxRecDepth 20000 in
theorem zj_Ref_fromText_42 {B : zx_B} (E : zx_E B zm_Ref_fromText)  (x1 : Int32) (h : zx_H) : zx_X B zm_Ref_fromText (zx_QM B (fun r => ((some (Value.long r.1) : Option Value), r.2))) (zs_Ref_fromText_J42  x1 h) 0 0 42 [(0, zx_rV (zx_BK B) 24 0), (1, .int x1)] [zx_rV (zx_BK B) 24 0] h := by
  unfold zs_Ref_fromText_J42
  refine zx_iconst E (1 : Int32) dd_Ref_fromText_42 (by decide) ?_
  refine zx_goto E 47 dd_Ref_fromText_43 rfl ?_
  exact zj_Ref_fromText_47 E x1 true h
set_option maxHeartbeats 4000000 in
set_option maxRecDepth 20000 in
theorem zt_Ref_fromText (l : Launch) (K : zx_K) (a1 : Int32) (a2 : Int32) (h : zx_H) (r : (Int64 × zx_H)) (hf : zs_Ref_fromText a1 a2 h = some r) : zx_MR l zm_Ref_fromText zy_Ref_fromText K [zx_rV K 24 0, .int a1, .int a2] h (some (.long r.1)) r.2 := by
  refine zx_ofM (M := zm_Ref_fromText) (y := zy_Ref_fromText) (r := r) (as := [zx_rV K 24 0, .int a1, .int a2]) (ρ := (fun r => ((some (Value.long r.1) : Option Value), r.2))) (by decide) rfl hf (Nat.le_of_ble_eq_true rfl) ?_
  intro B hl hK E
  subst hK
  subst hl
  show zx_X B zm_Ref_fromText _ _ 0 0 0 [(0, zx_rV (zx_BK B) 24 0), (1, .int a1), (2, .int a2)] [] h
  unfold zs_Ref_fromText
  refine zx_iload_n E 2 dd_Ref_fromText_0 rfl rfl ?_
  refine zx_iconst E (5 : Int32) dd_Ref_fromText_1 (by decide) ?_
  refine zx_icmp_ne E 19 dd_Ref_fromText_2 rfl ?_ ?_
  · refine zx_aload_n E 0 dd_Ref_fromText_5 rfl rfl ?_
    refine zx_iload_n E 1 dd_Ref_fromText_6 rfl rfl ?_
    refine zx_callV_z (T := zx_TRef) E [.int a1] (fun rZ eZ => zt_Ref_isTrue _ _ a1 h _ eZ) zg_24 Nat.zero_lt_one rfl zc_Ref_294 ⟨by decide, by decide⟩ (Nat.zero_le _) (Nat.zero_le _) rfl rfl (Nat.le_of_ble_eq_true rfl) dd_Ref_fromText_7 (fun r1 => ?_)
    refine zx_ifb_eq E (x := r1) 17 dd_Ref_fromText_10 rfl ?_ ?_
    rotate_left
    · refine zx_lconst E (0 : Int64) dd_Ref_fromText_17 rfl ?_
      exact zx_lret E rfl rfl dd_Ref_fromText_18
    refine zx_lconst E (1 : Int64) dd_Ref_fromText_13 rfl ?_
    refine zx_goto E 18 dd_Ref_fromText_14 rfl ?_
    exact zx_lret E rfl rfl dd_Ref_fromText_18
  refine zx_iload_n E 2 dd_Ref_fromText_19 rfl rfl ?_
  refine zx_iconst E (2 : Int32) dd_Ref_fromText_20 (by decide) ?_
  refine zx_icmp_ne E 61 dd_Ref_fromText_21 rfl ?_ ?_
  rotate_left
  · refine zx_aload_n E 0 dd_Ref_fromText_61 rfl rfl ?_
    refine zx_iload_n E 1 dd_Ref_fromText_62 rfl rfl ?_
    refine zx_iload_n E 2 dd_Ref_fromText_63 rfl rfl ?_
    refine zx_callV_lw (T := zx_TRef) E [.int a1, .int a2] (fun rZ eZ => zt_Ref_numberOf _ _ a1 a2 h _ eZ) zg_24 Nat.zero_lt_one rfl zc_Ref_297 ⟨by decide, by decide⟩ (Nat.zero_le _) (Nat.zero_le _) rfl rfl (Nat.le_of_ble_eq_true rfl) dd_Ref_fromText_64 (fun r2 => ?_)
    exact zx_lret E rfl rfl dd_Ref_fromText_67
  refine zx_aload_n E 0 dd_Ref_fromText_24 rfl rfl ?_
  refine zx_aload_n E 0 dd_Ref_fromText_25 rfl rfl ?_
  refine zx_getI E zd_Ref_failed zg_24 Nat.zero_lt_one zw_1144 dd_Ref_fromText_26 ?_
  refine zx_if_ne E 42 dd_Ref_fromText_29 rfl ?_ ?_
  rotate_left
  · refine zx_sub [0, 1] rfl ?_
    exact zj_Ref_fromText_42 E a1 h
  refine zx_aload_n E 0 dd_Ref_fromText_32 rfl rfl ?_
  refine zx_getR E 41 0 zd_Ref_count zg_24 Nat.zero_lt_one (zr_Ref_count _) zw_1132 dd_Ref_fromText_33 ?_
  refine zx_iload_n E 1 dd_Ref_fromText_36 rfl rfl ?_
  refine zx_iald E zg_41 Nat.zero_lt_one dd_Ref_fromText_37 ?_
  refine zx_iconst E (1 : Int32) dd_Ref_fromText_38 (by decide) ?_
  refine zx_icmp_eq E 46 dd_Ref_fromText_39 rfl ?_ ?_
  · refine zx_sub [0, 1] rfl ?_
    exact zj_Ref_fromText_42 E a1 h
  refine zx_iconst E (0 : Int32) dd_Ref_fromText_46 (by decide) ?_
  refine zx_sub [0, 1] rfl ?_
  exact zj_Ref_fromText_47 E a1 false h
set_option maxHeartbeats 4000000 in
set_option maxRecDepth 20000 in
theorem zj_Ref_constant_110 {B : zx_B} (E : zx_E B zm_Ref_constant) (k7 : (Int32 → Int32 → Int64 → Int32 → zx_H → Option (Int64 × zx_H))) (hk7 : ∀ (x1 : Int32) (x2 : Int32) (x3 : Int64) (x5 : Int32) (h : zx_H), zx_X B zm_Ref_constant (zx_QM B (fun r => ((some (Value.long r.1) : Option Value), r.2))) (k7 x1 x2 x3 x5 h) 0 0 7 [(0, zx_rV (zx_BK B) 24 0), (1, .int x1), (2, .int x2), (3, .long x3), (5, .int x5)] [] h) (k69 : (Int32 → Int32 → Int64 → Int32 → Bool → Int32 → zx_H → Option (Int64 × zx_H))) (hk69 : ∀ (x1 : Int32) (x2 : Int32) (x3 : Int64) (x5 : Int32) (x6 : Bool) (x7 : Int32) (h : zx_H), zx_X B zm_Ref_constant (zx_QM B (fun r => ((some (Value.long r.1) : Option Value), r.2))) (k69 x1 x2 x3 x5 x6 x7 h) 0 0 69 [(0, zx_rV (zx_BK B) 24 0), (1, .int x1), (2, .int x2), (3, .long x3), (5, .int x5), (6, .int (zx_b x6)), (7, .int x7)] [] h) (x1 : Int32) (x2 : Int32) (x3 : Int64) (x5 : Int32) (x7 : Int32) (s0 : Bool) (h : zx_H) : zx_X B zm_Ref_constant (zx_QM B (fun r => ((some (Value.long r.1) : Option Value), r.2))) (zs_Ref_constant_J110 k7 k69 x1 x2 x3 x5 x7 s0 h) 0 0 110 [(0, zx_rV (zx_BK B) 24 0), (1, .int x1), (2, .int x2), (3, .long x3), (5, .int x5), (7, .int x7)] [.int (zx_b s0)] h := by
  unfold zs_Ref_constant_J110
  refine zx_istore E (lv1 := [(6, .int (zx_b s0)), (0, zx_rV (zx_BK B) 24 0), (1, .int x1), (2, .int x2), (3, .long x3), (5, .int x5), (7, .int x7)]) dd_Ref_constant_110 (by decide) rfl ?_
  refine zx_iinc E 6 (x7 + (1 : Int32)) (lv1 := [(7, .int (x7 + (1 : Int32))), (6, .int (zx_b s0)), (0, zx_rV (zx_BK B) 24 0), (1, .int x1), (2, .int x2), (3, .long x3), (5, .int x5)]) dd_Ref_constant_112 rfl rfl (by decide) rfl ?_
  refine zx_goto E 69 dd_Ref_constant_115 rfl ?_
  refine zx_sub [2, 3, 4, 5, 6, 1, 0] rfl ?_
  exact hk69 x1 x2 x3 x5 s0 (x7 + (1 : Int32)) h
set_option maxHeartbeats 4000000 in
set_option maxRecDepth 20000 in
theorem zj_Ref_constant_130 {B : zx_B} (E : zx_E B zm_Ref_constant) (k7 : (Int32 → Int32 → Int64 → Int32 → zx_H → Option (Int64 × zx_H))) (hk7 : ∀ (x1 : Int32) (x2 : Int32) (x3 : Int64) (x5 : Int32) (h : zx_H), zx_X B zm_Ref_constant (zx_QM B (fun r => ((some (Value.long r.1) : Option Value), r.2))) (k7 x1 x2 x3 x5 h) 0 0 7 [(0, zx_rV (zx_BK B) 24 0), (1, .int x1), (2, .int x2), (3, .long x3), (5, .int x5)] [] h) (x1 : Int32) (x2 : Int32) (x5 : Int32) (s0 : Int64) (h : zx_H) : zx_X B zm_Ref_constant (zx_QM B (fun r => ((some (Value.long r.1) : Option Value), r.2))) (zs_Ref_constant_J130 k7 x1 x2 x5 s0 h) 0 0 130 [(0, zx_rV (zx_BK B) 24 0), (1, .int x1), (2, .int x2), (5, .int x5)] [.long s0] h := by
  unfold zs_Ref_constant_J130
  refine zx_lstore_n E (lv1 := [(3, .long s0), (0, zx_rV (zx_BK B) 24 0), (1, .int x1), (2, .int x2), (5, .int x5)]) dd_Ref_constant_130 rfl (by decide) rfl ?_
  refine zx_iinc E 4 (x5 + (1 : Int32)) (lv1 := [(5, .int (x5 + (1 : Int32))), (3, .long s0), (0, zx_rV (zx_BK B) 24 0), (1, .int x1), (2, .int x2)]) dd_Ref_constant_131 rfl rfl (by decide) rfl ?_
  refine zx_goto E 7 dd_Ref_constant_134 rfl ?_
  refine zx_sub [2, 3, 4, 1, 0] rfl ?_
  exact hk7 x1 x2 s0 (x5 + (1 : Int32)) h
set_option maxHeartbeats 4000000 in
set_option maxRecDepth 20000 in
theorem zj_Ref_constant_118 {B : zx_B} (E : zx_E B zm_Ref_constant) (k7 : (Int32 → Int32 → Int64 → Int32 → zx_H → Option (Int64 × zx_H))) (hk7 : ∀ (x1 : Int32) (x2 : Int32) (x3 : Int64) (x5 : Int32) (h : zx_H), zx_X B zm_Ref_constant (zx_QM B (fun r => ((some (Value.long r.1) : Option Value), r.2))) (k7 x1 x2 x3 x5 h) 0 0 7 [(0, zx_rV (zx_BK B) 24 0), (1, .int x1), (2, .int x2), (3, .long x3), (5, .int x5)] [] h) (x1 : Int32) (x2 : Int32) (x3 : Int64) (x5 : Int32) (x6 : Bool) (h : zx_H) : zx_X B zm_Ref_constant (zx_QM B (fun r => ((some (Value.long r.1) : Option Value), r.2))) (zs_Ref_constant_J118 k7 x1 x2 x3 x5 x6 h) 0 0 118 [(0, zx_rV (zx_BK B) 24 0), (1, .int x1), (2, .int x2), (3, .long x3), (5, .int x5), (6, .int (zx_b x6))] [] h := by
  unfold zs_Ref_constant_J118
  refine zx_iload E 5 dd_Ref_constant_118 rfl ?_
  refine zx_ifb_eq E (x := x6) 129 dd_Ref_constant_120 rfl ?_ ?_
  rotate_left
  · refine zx_lload_n E 3 dd_Ref_constant_129 rfl rfl ?_
    refine zx_sub [0, 1, 2, 4] rfl ?_
    exact zj_Ref_constant_130 E k7 hk7 x1 x2 x5 x3 h
  refine zx_iload E 4 dd_Ref_constant_123 rfl ?_
  refine zx_i2l E dd_Ref_constant_125 ?_
  refine zx_goto E 130 dd_Ref_constant_126 rfl ?_
  refine zx_sub [0, 1, 2, 4] rfl ?_
  exact zj_Ref_constant_130 E k7 hk7 x1 x2 x5 (x5.toInt64) h
set_option maxHeartbeats 4000000 in
set_option maxRecDepth 20000 in
theorem zb_Ref_constant_69 {B : zx_B} (E : zx_E B zm_Ref_constant) (k7 : (Int32 → Int32 → Int64 → Int32 → zx_H → Option (Int64 × zx_H))) (hk7 : ∀ (x1 : Int32) (x2 : Int32) (x3 : Int64) (x5 : Int32) (h : zx_H), zx_X B zm_Ref_constant (zx_QM B (fun r => ((some (Value.long r.1) : Option Value), r.2))) (k7 x1 x2 x3 x5 h) 0 0 7 [(0, zx_rV (zx_BK B) 24 0), (1, .int x1), (2, .int x2), (3, .long x3), (5, .int x5)] [] h) (k69 : (Int32 → Int32 → Int64 → Int32 → Bool → Int32 → zx_H → Option (Int64 × zx_H))) (hk69 : ∀ (x1 : Int32) (x2 : Int32) (x3 : Int64) (x5 : Int32) (x6 : Bool) (x7 : Int32) (h : zx_H), zx_X B zm_Ref_constant (zx_QM B (fun r => ((some (Value.long r.1) : Option Value), r.2))) (k69 x1 x2 x3 x5 x6 x7 h) 0 0 69 [(0, zx_rV (zx_BK B) 24 0), (1, .int x1), (2, .int x2), (3, .long x3), (5, .int x5), (6, .int (zx_b x6)), (7, .int x7)] [] h) (x1 : Int32) (x2 : Int32) (x3 : Int64) (x5 : Int32) (x6 : Bool) (x7 : Int32) (h : zx_H) : zx_X B zm_Ref_constant (zx_QM B (fun r => ((some (Value.long r.1) : Option Value), r.2))) (zs_Ref_constant_L69_body k7 k69 x1 x2 x3 x5 x6 x7 h) 0 0 69 [(0, zx_rV (zx_BK B) 24 0), (1, .int x1), (2, .int x2), (3, .long x3), (5, .int x5), (6, .int (zx_b x6)), (7, .int x7)] [] h := by
  unfold zs_Ref_constant_L69_body
  refine zx_iload E 6 dd_Ref_constant_69 rfl ?_
  refine zx_aload_n E 0 dd_Ref_constant_71 rfl rfl ?_
  refine zx_getI E zd_Ref_length zg_24 Nat.zero_lt_one zw_1145 dd_Ref_constant_72 ?_
  refine zx_icmp_ge E 118 dd_Ref_constant_75 rfl ?_ ?_
  rotate_left
  · refine zx_sub [0, 1, 2, 3, 4, 5] rfl ?_
    exact zj_Ref_constant_118 E k7 hk7 x1 x2 x3 x5 x6 h
  refine zx_iload E 5 dd_Ref_constant_78 rfl ?_
  refine zx_ifb_eq E (x := x6) 118 dd_Ref_constant_80 rfl ?_ ?_
  rotate_left
  · refine zx_sub [0, 1, 2, 3, 4, 5] rfl ?_
    exact zj_Ref_constant_118 E k7 hk7 x1 x2 x3 x5 x6 h
  refine zx_aload_n E 0 dd_Ref_constant_83 rfl rfl ?_
  refine zx_getR E 51 0 zd_Ref_text zg_24 Nat.zero_lt_one (zr_Ref_text _) zw_1146 dd_Ref_constant_84 ?_
  refine zx_iload E 6 dd_Ref_constant_87 rfl ?_
  refine zx_iald E zg_51 Nat.zero_lt_one dd_Ref_constant_89 ?_
  refine zx_aload_n E 0 dd_Ref_constant_90 rfl rfl ?_
  refine zx_getR E 43 0 zd_Ref_characters zg_24 Nat.zero_lt_one (zr_Ref_characters _) zw_1134 dd_Ref_constant_91 ?_
  refine zx_bipush E (24 : Int32) dd_Ref_constant_94 (by decide) ?_
  refine zx_iload_n E 1 dd_Ref_constant_96 rfl rfl ?_
  refine zx_imul E dd_Ref_constant_97 ?_
  refine zx_iload E 6 dd_Ref_constant_98 rfl ?_
  refine zx_iadd E dd_Ref_constant_100 ?_
  refine zx_iald E zg_43 Nat.zero_lt_one dd_Ref_constant_101 ?_
  refine zx_icmp_ne E 109 dd_Ref_constant_102 rfl ?_ ?_
  rotate_left
  · refine zx_iconst E (0 : Int32) dd_Ref_constant_109 (by decide) ?_
    refine zx_sub [0, 1, 2, 3, 4, 6] rfl ?_
    exact zj_Ref_constant_110 E k7 hk7 k69 hk69 x1 x2 x3 x5 x7 false h
  refine zx_iconst E (1 : Int32) dd_Ref_constant_105 (by decide) ?_
  refine zx_goto E 110 dd_Ref_constant_106 rfl ?_
  refine zx_sub [0, 1, 2, 3, 4, 6] rfl ?_
  exact zj_Ref_constant_110 E k7 hk7 k69 hk69 x1 x2 x3 x5 x7 true h
theorem zj_Ref_constant_69 {B : zx_B} (E : zx_E B zm_Ref_constant) (k7 : (Int32 → Int32 → Int64 → Int32 → zx_H → Option (Int64 × zx_H))) (hk7 : ∀ (x1 : Int32) (x2 : Int32) (x3 : Int64) (x5 : Int32) (h : zx_H), zx_X B zm_Ref_constant (zx_QM B (fun r => ((some (Value.long r.1) : Option Value), r.2))) (k7 x1 x2 x3 x5 h) 0 0 7 [(0, zx_rV (zx_BK B) 24 0), (1, .int x1), (2, .int x2), (3, .long x3), (5, .int x5)] [] h) : ∀ (x1 : Int32) (x2 : Int32) (x3 : Int64) (x5 : Int32) (x6 : Bool) (x7 : Int32) (h : zx_H), zx_X B zm_Ref_constant (zx_QM B (fun r => ((some (Value.long r.1) : Option Value), r.2))) (zs_Ref_constant_L69 k7 x1 x2 x3 x5 x6 x7 h) 0 0 69 [(0, zx_rV (zx_BK B) 24 0), (1, .int x1), (2, .int x2), (3, .long x3), (5, .int x5), (6, .int (zx_b x6)), (7, .int x7)] [] h := by
  unfold zs_Ref_constant_L69
  generalize zx_fuel = n
  induction n with
  | zero => intros; exact zx_non
  | succ n ih => intro x1 x2 x3 x5 x6 x7 h; exact zb_Ref_constant_69 E k7 hk7 _ ih x1 x2 x3 x5 x6 x7 h
set_option maxHeartbeats 4000000 in
set_option maxRecDepth 20000 in
theorem zj_Ref_constant_64 {B : zx_B} (E : zx_E B zm_Ref_constant) (k7 : (Int32 → Int32 → Int64 → Int32 → zx_H → Option (Int64 × zx_H))) (hk7 : ∀ (x1 : Int32) (x2 : Int32) (x3 : Int64) (x5 : Int32) (h : zx_H), zx_X B zm_Ref_constant (zx_QM B (fun r => ((some (Value.long r.1) : Option Value), r.2))) (k7 x1 x2 x3 x5 h) 0 0 7 [(0, zx_rV (zx_BK B) 24 0), (1, .int x1), (2, .int x2), (3, .long x3), (5, .int x5)] [] h) (x1 : Int32) (x2 : Int32) (x3 : Int64) (x5 : Int32) (s0 : Bool) (h : zx_H) : zx_X B zm_Ref_constant (zx_QM B (fun r => ((some (Value.long r.1) : Option Value), r.2))) (zs_Ref_constant_J64 k7 x1 x2 x3 x5 s0 h) 0 0 64 [(0, zx_rV (zx_BK B) 24 0), (1, .int x1), (2, .int x2), (3, .long x3), (5, .int x5)] [.int (zx_b s0)] h := by
  unfold zs_Ref_constant_J64
  refine zx_istore E (lv1 := [(6, .int (zx_b s0)), (0, zx_rV (zx_BK B) 24 0), (1, .int x1), (2, .int x2), (3, .long x3), (5, .int x5)]) dd_Ref_constant_64 (by decide) rfl ?_
  refine zx_iconst E (0 : Int32) dd_Ref_constant_66 (by decide) ?_
  refine zx_istore E (lv1 := [(7, .int (0 : Int32)), (6, .int (zx_b s0)), (0, zx_rV (zx_BK B) 24 0), (1, .int x1), (2, .int x2), (3, .long x3), (5, .int x5)]) dd_Ref_constant_67 (by decide) rfl ?_
  refine zx_sub [2, 3, 4, 5, 6, 1, 0] rfl ?_
  exact zj_Ref_constant_69 E k7 hk7 x1 x2 x3 x5 s0 (0 : Int32) h
set_option maxHeartbeats 4000000 in
set_option maxRecDepth 20000 in
theorem zj_Ref_constant_151 {B : zx_B} (E : zx_E B zm_Ref_constant)  (x3 : Int64) (h : zx_H) : zx_X B zm_Ref_constant (zx_QM B (fun r => ((some (Value.long r.1) : Option Value), r.2))) (zs_Ref_constant_J151  x3 h) 0 0 151 [(3, .long x3)] [zx_rV (zx_BK B) 24 0] h := by
  unfold zs_Ref_constant_J151
  refine zx_iconst E (1 : Int32) dd_Ref_constant_151 (by decide) ?_
  refine zx_goto E 156 dd_Ref_constant_152 rfl ?_
  refine zx_putI E zd_Ref_failed zp_Ref_failed zg_24 Nat.zero_lt_one rfl rfl zw_1144 dd_Ref_constant_156 ?_
  refine zx_letH (fun h1 => ?_)
  refine zx_lload_n E 0 dd_Ref_constant_159 rfl rfl ?_
  exact zx_lret E rfl rfl dd_Ref_constant_160
set_option maxHeartbeats 4000000 in
set_option maxRecDepth 20000 in
theorem zb_Ref_constant_7 {B : zx_B} (E : zx_E B zm_Ref_constant)  (k7 : (Int32 → Int32 → Int64 → Int32 → zx_H → Option (Int64 × zx_H))) (hk7 : ∀ (x1 : Int32) (x2 : Int32) (x3 : Int64) (x5 : Int32) (h : zx_H), zx_X B zm_Ref_constant (zx_QM B (fun r => ((some (Value.long r.1) : Option Value), r.2))) (k7 x1 x2 x3 x5 h) 0 0 7 [(0, zx_rV (zx_BK B) 24 0), (1, .int x1), (2, .int x2), (3, .long x3), (5, .int x5)] [] h) (x1 : Int32) (x2 : Int32) (x3 : Int64) (x5 : Int32) (h : zx_H) : zx_X B zm_Ref_constant (zx_QM B (fun r => ((some (Value.long r.1) : Option Value), r.2))) (zs_Ref_constant_L7_body  k7 x1 x2 x3 x5 h) 0 0 7 [(0, zx_rV (zx_BK B) 24 0), (1, .int x1), (2, .int x2), (3, .long x3), (5, .int x5)] [] h := by
  unfold zs_Ref_constant_L7_body
  refine zx_iload E 4 dd_Ref_constant_7 rfl ?_
  refine zx_aload_n E 0 dd_Ref_constant_9 rfl rfl ?_
  refine zx_getR E 26 0 zd_Ref_size zg_24 Nat.zero_lt_one (zr_Ref_size _) zw_1111 dd_Ref_constant_10 ?_
  refine zx_iload_n E 2 dd_Ref_constant_13 rfl rfl ?_
  refine zx_iald E zg_26 Nat.zero_lt_one dd_Ref_constant_14 ?_
  refine zx_icmp_ge E 137 dd_Ref_constant_15 rfl ?_ ?_
  rotate_left
  · refine zx_aload_n E 0 dd_Ref_constant_137 rfl rfl ?_
    refine zx_aload_n E 0 dd_Ref_constant_138 rfl rfl ?_
    refine zx_getI E zd_Ref_failed zg_24 Nat.zero_lt_one zw_1144 dd_Ref_constant_139 ?_
    refine zx_if_ne E 151 dd_Ref_constant_142 rfl ?_ ?_
    rotate_left
    · refine zx_sub [3] rfl ?_
      exact zj_Ref_constant_151 E x3 h
    refine zx_lload_n E 3 dd_Ref_constant_145 rfl rfl ?_
    refine zx_lconst E (0 : Int64) dd_Ref_constant_146 rfl ?_
    refine zx_lcmp_ge E 155 dd_Ref_constant_147 dd_Ref_constant_148 rfl ?_ ?_
    · refine zx_sub [3] rfl ?_
      exact zj_Ref_constant_151 E x3 h
    refine zx_iconst E (0 : Int32) dd_Ref_constant_155 (by decide) ?_
    refine zx_putI E zd_Ref_failed zp_Ref_failed zg_24 Nat.zero_lt_one rfl rfl zw_1144 dd_Ref_constant_156 ?_
    refine zx_letH (fun h4 => ?_)
    refine zx_lload_n E 3 dd_Ref_constant_159 rfl rfl ?_
    exact zx_lret E rfl rfl dd_Ref_constant_160
  refine zx_aload_n E 0 dd_Ref_constant_18 rfl rfl ?_
  refine zx_iconst E (0 : Int32) dd_Ref_constant_19 (by decide) ?_
  refine zx_putI E zd_Ref_length zp_Ref_length zg_24 Nat.zero_lt_one rfl rfl zw_1145 dd_Ref_constant_20 ?_
  refine zx_letH (fun h1 => ?_)
  refine zx_aload_n E 0 dd_Ref_constant_23 rfl rfl ?_
  refine zx_bipush E (110 : Int32) dd_Ref_constant_24 (by decide) ?_
  refine zx_callV_v (T := zx_TRef) E [.int (110 : Int32)] (fun rZ eZ => zt_Ref_write _ _ (110 : Int32) h1 _ eZ) zg_24 Nat.zero_lt_one rfl zc_Ref_270 ⟨by decide, by decide⟩ (Nat.zero_le _) (Nat.zero_le _) rfl rfl (Nat.le_of_ble_eq_true rfl) dd_Ref_constant_26 (fun r2 => ?_)
  refine zx_aload_n E 0 dd_Ref_constant_29 rfl rfl ?_
  refine zx_aload_n E 0 dd_Ref_constant_30 rfl rfl ?_
  refine zx_getR E 27 0 zd_Ref_names zg_24 Nat.zero_lt_one (zr_Ref_names _) zw_1112 dd_Ref_constant_31 ?_
  refine zx_bipush E (8 : Int32) dd_Ref_constant_34 (by decide) ?_
  refine zx_iload_n E 2 dd_Ref_constant_36 rfl rfl ?_
  refine zx_imul E dd_Ref_constant_37 ?_
  refine zx_iload E 4 dd_Ref_constant_38 rfl ?_
  refine zx_iadd E dd_Ref_constant_40 ?_
  refine zx_iald E zg_27 Nat.zero_lt_one dd_Ref_constant_41 ?_
  refine zx_i2l E dd_Ref_constant_42 ?_
  refine zx_callV_v (T := zx_TRef) E [.long ((r2.1 27 0 (((8 : Int32) * x2) + x5).toNatClampNeg).toInt64)] (fun rZ eZ => zt_Ref_writeNumber _ _ ((r2.1 27 0 (((8 : Int32) * x2) + x5).toNatClampNeg).toInt64) r2 _ eZ) zg_24 Nat.zero_lt_one rfl zc_Ref_282 ⟨by decide, by decide⟩ (Nat.zero_le _) (Nat.zero_le _) rfl rfl (Nat.le_of_ble_eq_true rfl) dd_Ref_constant_43 (fun r3 => ?_)
  refine zx_aload_n E 0 dd_Ref_constant_46 rfl rfl ?_
  refine zx_getI E zd_Ref_length zg_24 Nat.zero_lt_one zw_1145 dd_Ref_constant_47 ?_
  refine zx_aload_n E 0 dd_Ref_constant_50 rfl rfl ?_
  refine zx_getR E 41 0 zd_Ref_count zg_24 Nat.zero_lt_one (zr_Ref_count _) zw_1132 dd_Ref_constant_51 ?_
  refine zx_iload_n E 1 dd_Ref_constant_54 rfl rfl ?_
  refine zx_iald E zg_41 Nat.zero_lt_one dd_Ref_constant_55 ?_
  refine zx_icmp_ne E 63 dd_Ref_constant_56 rfl ?_ ?_
  rotate_left
  · refine zx_iconst E (0 : Int32) dd_Ref_constant_63 (by decide) ?_
    exact zj_Ref_constant_64 E k7 hk7 x1 x2 x3 x5 false r3
  refine zx_iconst E (1 : Int32) dd_Ref_constant_59 (by decide) ?_
  refine zx_goto E 64 dd_Ref_constant_60 rfl ?_
  exact zj_Ref_constant_64 E k7 hk7 x1 x2 x3 x5 true r3
theorem zj_Ref_constant_7 {B : zx_B} (E : zx_E B zm_Ref_constant)  : ∀ (x1 : Int32) (x2 : Int32) (x3 : Int64) (x5 : Int32) (h : zx_H), zx_X B zm_Ref_constant (zx_QM B (fun r => ((some (Value.long r.1) : Option Value), r.2))) (zs_Ref_constant_L7  x1 x2 x3 x5 h) 0 0 7 [(0, zx_rV (zx_BK B) 24 0), (1, .int x1), (2, .int x2), (3, .long x3), (5, .int x5)] [] h := by
  unfold zs_Ref_constant_L7
  generalize zx_fuel = n
  induction n with
  | zero => intros; exact zx_non
  | succ n ih => intro x1 x2 x3 x5 h; exact zb_Ref_constant_7 E  _ ih x1 x2 x3 x5 h
set_option maxHeartbeats 4000000 in
set_option maxRecDepth 20000 in
theorem zt_Ref_constant (l : Launch) (K : zx_K) (a1 : Int32) (a2 : Int32) (h : zx_H) (r : (Int64 × zx_H)) (hf : zs_Ref_constant a1 a2 h = some r) : zx_MR l zm_Ref_constant zy_Ref_constant K [zx_rV K 24 0, .int a1, .int a2] h (some (.long r.1)) r.2 := by
  refine zx_ofM (M := zm_Ref_constant) (y := zy_Ref_constant) (r := r) (as := [zx_rV K 24 0, .int a1, .int a2]) (ρ := (fun r => ((some (Value.long r.1) : Option Value), r.2))) (by decide) rfl hf (Nat.le_of_ble_eq_true rfl) ?_
  intro B hl hK E
  subst hK
  subst hl
  show zx_X B zm_Ref_constant _ _ 0 0 0 [(0, zx_rV (zx_BK B) 24 0), (1, .int a1), (2, .int a2)] [] h
  unfold zs_Ref_constant
  refine zx_ldc2 E (-1 : Int64) zw_1322 dd_Ref_constant_0 ?_
  refine zx_lstore_n E (lv1 := [(3, .long (-1 : Int64)), (0, zx_rV (zx_BK B) 24 0), (1, .int a1), (2, .int a2)]) dd_Ref_constant_3 rfl (by decide) rfl ?_
  refine zx_iconst E (0 : Int32) dd_Ref_constant_4 (by decide) ?_
  refine zx_istore E (lv1 := [(5, .int (0 : Int32)), (3, .long (-1 : Int64)), (0, zx_rV (zx_BK B) 24 0), (1, .int a1), (2, .int a2)]) dd_Ref_constant_5 (by decide) rfl ?_
  refine zx_sub [2, 3, 4, 1, 0] rfl ?_
  exact zj_Ref_constant_7 E a1 a2 (-1 : Int64) (0 : Int32) h
set_option maxHeartbeats 4000000 in
set_option maxRecDepth 20000 in
theorem zt_Ref_plain (l : Launch) (K : zx_K) (a1 : Int32) (a2 : Int64) (h : zx_H) (r : Int64) (hf : zs_Ref_plain a1 a2 h = some r) : zx_MR l zm_Ref_plain zy_Ref_plain K [zx_rV K 24 0, .int a1, .long a2] h (some (.long r)) h := by
  refine zx_ofM (M := zm_Ref_plain) (y := zy_Ref_plain) (r := r) (as := [zx_rV K 24 0, .int a1, .long a2]) (ρ := (fun r => ((some (Value.long r) : Option Value), h))) (by decide) rfl hf (Nat.le_of_ble_eq_true rfl) ?_
  intro B hl hK E
  subst hK
  subst hl
  show zx_X B zm_Ref_plain _ _ 0 0 0 [(0, zx_rV (zx_BK B) 24 0), (1, .int a1), (2, .long a2)] [] h
  unfold zs_Ref_plain
  refine zx_aload_n E 0 dd_Ref_plain_0 rfl rfl ?_
  refine zx_getR E 25 0 zd_Ref_sort zg_24 Nat.zero_lt_one (zr_Ref_sort _) zw_1110 dd_Ref_plain_1 ?_
  refine zx_iload_n E 1 dd_Ref_plain_4 rfl rfl ?_
  refine zx_iald E zg_25 Nat.zero_lt_one dd_Ref_plain_5 ?_
  refine zx_iconst E (1 : Int32) dd_Ref_plain_6 (by decide) ?_
  refine zx_icmp_ne E 23 dd_Ref_plain_7 rfl ?_ ?_
  rotate_left
  · refine zx_lload_n E 2 dd_Ref_plain_23 rfl rfl ?_
    exact zx_lret E rfl rfl dd_Ref_plain_24
  refine zx_aload_n E 0 dd_Ref_plain_10 rfl rfl ?_
  refine zx_getR E 42 0 zd_Ref_values zg_24 Nat.zero_lt_one (zr_Ref_values _) zw_1133 dd_Ref_plain_11 ?_
  refine zx_bipush E (16 : Int32) dd_Ref_plain_14 (by decide) ?_
  refine zx_lload_n E 2 dd_Ref_plain_16 rfl rfl ?_
  refine zx_l2i E dd_Ref_plain_17 ?_
  refine zx_imul E dd_Ref_plain_18 ?_
  refine zx_lald E zg_42 Nat.zero_lt_one dd_Ref_plain_19 ?_
  refine zx_goto E 24 dd_Ref_plain_20 rfl ?_
  exact zx_lret E rfl rfl dd_Ref_plain_24
set_option maxHeartbeats 4000000 in
set_option maxRecDepth 20000 in
theorem zt_Ref_boxed (l : Launch) (K : zx_K) (a1 : Int32) (a2 : Int64) (h : zx_H) (r : (Int64 × zx_H)) (hf : zs_Ref_boxed a1 a2 h = some r) : zx_MR l zm_Ref_boxed zy_Ref_boxed K [zx_rV K 24 0, .int a1, .long a2] h (some (.long r.1)) r.2 := by
  refine zx_ofM (M := zm_Ref_boxed) (y := zy_Ref_boxed) (r := r) (as := [zx_rV K 24 0, .int a1, .long a2]) (ρ := (fun r => ((some (Value.long r.1) : Option Value), r.2))) (by decide) rfl hf (Nat.le_of_ble_eq_true rfl) ?_
  intro B hl hK E
  subst hK
  subst hl
  show zx_X B zm_Ref_boxed _ _ 0 0 0 [(0, zx_rV (zx_BK B) 24 0), (1, .int a1), (2, .long a2)] [] h
  unfold zs_Ref_boxed
  refine zx_aload_n E 0 dd_Ref_boxed_0 rfl rfl ?_
  refine zx_getR E 25 0 zd_Ref_sort zg_24 Nat.zero_lt_one (zr_Ref_sort _) zw_1110 dd_Ref_boxed_1 ?_
  refine zx_iload_n E 1 dd_Ref_boxed_4 rfl rfl ?_
  refine zx_iald E zg_25 Nat.zero_lt_one dd_Ref_boxed_5 ?_
  refine zx_iconst E (1 : Int32) dd_Ref_boxed_6 (by decide) ?_
  refine zx_icmp_ne E 17 dd_Ref_boxed_7 rfl ?_ ?_
  rotate_left
  · refine zx_lload_n E 2 dd_Ref_boxed_17 rfl rfl ?_
    exact zx_lret E rfl rfl dd_Ref_boxed_18
  refine zx_aload_n E 0 dd_Ref_boxed_10 rfl rfl ?_
  refine zx_getI E zd_Ref_failed zg_24 Nat.zero_lt_one zw_1144 dd_Ref_boxed_11 ?_
  refine zx_if_eq E 19 dd_Ref_boxed_14 rfl ?_ ?_
  · refine zx_lload_n E 2 dd_Ref_boxed_17 rfl rfl ?_
    exact zx_lret E rfl rfl dd_Ref_boxed_18
  refine zx_aload_n E 0 dd_Ref_boxed_19 rfl rfl ?_
  refine zx_iload_n E 1 dd_Ref_boxed_20 rfl rfl ?_
  refine zx_callV_iw (T := zx_TRef) E [.int a1] (fun rZ eZ => zt_Ref_object _ _ a1 h _ eZ) zg_24 Nat.zero_lt_one rfl zc_Ref_239 ⟨by decide, by decide⟩ (Nat.zero_le _) (Nat.zero_le _) rfl rfl (Nat.le_of_ble_eq_true rfl) dd_Ref_boxed_21 (fun r1 => ?_)
  refine zx_istore E (lv1 := [(4, .int r1.1), (0, zx_rV (zx_BK B) 24 0), (1, .int a1), (2, .long a2)]) dd_Ref_boxed_24 (by decide) rfl ?_
  refine zx_iload E 0 dd_Ref_boxed_26 rfl ?_
  refine zx_if_lt E 42 dd_Ref_boxed_28 rfl ?_ ?_
  rotate_left
  · refine zx_iload E 0 dd_Ref_boxed_42 rfl ?_
    refine zx_i2l E dd_Ref_boxed_44 ?_
    exact zx_lret E rfl rfl dd_Ref_boxed_45
  refine zx_aload_n E 1 dd_Ref_boxed_31 rfl rfl ?_
  refine zx_getR E 42 0 zd_Ref_values zg_24 Nat.zero_lt_one (zr_Ref_values _) zw_1133 dd_Ref_boxed_32 ?_
  refine zx_bipush E (16 : Int32) dd_Ref_boxed_35 (by decide) ?_
  refine zx_iload E 0 dd_Ref_boxed_37 rfl ?_
  refine zx_imul E dd_Ref_boxed_39 ?_
  refine zx_lload_n E 3 dd_Ref_boxed_40 rfl rfl ?_
  refine zx_last E zg_42 Nat.zero_lt_one dd_Ref_boxed_41 ?_
  refine zx_letH (fun h2 => ?_)
  refine zx_iload E 0 dd_Ref_boxed_42 rfl ?_
  refine zx_i2l E dd_Ref_boxed_44 ?_
  exact zx_lret E rfl rfl dd_Ref_boxed_45
set_option maxHeartbeats 4000000 in
set_option maxRecDepth 20000 in
theorem zj_Ref_converted_32 {B : zx_B} (E : zx_E B zm_Ref_converted)  (x1 : Int32) (x2 : Int32) (x3 : Int64) (h : zx_H) : zx_X B zm_Ref_converted (zx_QM B (fun r => ((some (Value.long r.1) : Option Value), r.2))) (zs_Ref_converted_J32  x1 x2 x3 h) 0 0 32 [(0, zx_rV (zx_BK B) 24 0), (1, .int x1), (2, .int x2), (3, .long x3)] [] h := by
  unfold zs_Ref_converted_J32
  refine zx_iload_n E 2 dd_Ref_converted_32 rfl rfl ?_
  refine zx_bipush E (14 : Int32) dd_Ref_converted_33 (by decide) ?_
  refine zx_icmp_ne E 61 dd_Ref_converted_35 rfl ?_ ?_
  · refine zx_aload_n E 0 dd_Ref_converted_38 rfl rfl ?_
    refine zx_iload_n E 1 dd_Ref_converted_39 rfl rfl ?_
    refine zx_iload_n E 1 dd_Ref_converted_40 rfl rfl ?_
    refine zx_callS_z E [.int x1] (fun rZ eZ => zt_Ref_isAmount _ _ x1 h _ eZ) zc_Ref_139 ⟨by decide, by decide⟩ (Nat.zero_le _) (Nat.zero_le _) rfl rfl (Nat.le_of_ble_eq_true rfl) dd_Ref_converted_41 (fun r1 => ?_)
    refine zx_ifb_eq E (x := r1) 56 dd_Ref_converted_44 rfl ?_ ?_
    rotate_left
    · refine zx_lload_n E 3 dd_Ref_converted_56 rfl rfl ?_
      refine zx_callV_lw (T := zx_TRef) E [.int x1, .long x3] (fun rZ eZ => zt_Ref_toText _ _ x1 x3 h _ eZ) zg_24 Nat.zero_lt_one rfl zc_Ref_308 ⟨by decide, by decide⟩ (Nat.zero_le _) (Nat.zero_le _) rfl rfl (Nat.le_of_ble_eq_true rfl) dd_Ref_converted_57 (fun r4 => ?_)
      exact zx_lret E rfl rfl dd_Ref_converted_60
    refine zx_aload_n E 0 dd_Ref_converted_47 rfl rfl ?_
    refine zx_iload_n E 1 dd_Ref_converted_48 rfl rfl ?_
    refine zx_lload_n E 3 dd_Ref_converted_49 rfl rfl ?_
    refine zx_callV_l (T := zx_TRef) E [.int x1, .long x3] (fun rZ eZ => zt_Ref_plain _ _ x1 x3 h _ eZ) zg_24 Nat.zero_lt_one rfl zc_Ref_300 ⟨by decide, by decide⟩ (Nat.zero_le _) (Nat.zero_le _) rfl rfl (Nat.le_of_ble_eq_true rfl) dd_Ref_converted_50 (fun r2 => ?_)
    refine zx_goto E 57 dd_Ref_converted_53 rfl ?_
    refine zx_callV_lw (T := zx_TRef) E [.int x1, .long r2] (fun rZ eZ => zt_Ref_toText _ _ x1 r2 h _ eZ) zg_24 Nat.zero_lt_one rfl zc_Ref_308 ⟨by decide, by decide⟩ (Nat.zero_le _) (Nat.zero_le _) rfl rfl (Nat.le_of_ble_eq_true rfl) dd_Ref_converted_57 (fun r3 => ?_)
    exact zx_lret E rfl rfl dd_Ref_converted_60
  refine zx_iload_n E 2 dd_Ref_converted_61 rfl rfl ?_
  refine zx_callS_z E [.int x2] (fun rZ eZ => zt_Ref_isAmount _ _ x2 h _ eZ) zc_Ref_139 ⟨by decide, by decide⟩ (Nat.zero_le _) (Nat.zero_le _) rfl rfl (Nat.le_of_ble_eq_true rfl) dd_Ref_converted_62 (fun r5 => ?_)
  refine zx_ifb_eq E (x := r5) 81 dd_Ref_converted_65 rfl ?_ ?_
  rotate_left
  · refine zx_aload_n E 0 dd_Ref_converted_81 rfl rfl ?_
    refine zx_lload_n E 3 dd_Ref_converted_82 rfl rfl ?_
    refine zx_l2i E dd_Ref_converted_83 ?_
    refine zx_iload_n E 2 dd_Ref_converted_84 rfl rfl ?_
    refine zx_callV_lw (T := zx_TRef) E [.int (x3.toInt32), .int x2] (fun rZ eZ => zt_Ref_constant _ _ (x3.toInt32) x2 h _ eZ) zg_24 Nat.zero_lt_one rfl zc_Ref_314 ⟨by decide, by decide⟩ (Nat.zero_le _) (Nat.zero_le _) rfl rfl (Nat.le_of_ble_eq_true rfl) dd_Ref_converted_85 (fun r8 => ?_)
    exact zx_lret E rfl rfl dd_Ref_converted_88
  refine zx_aload_n E 0 dd_Ref_converted_68 rfl rfl ?_
  refine zx_lload_n E 3 dd_Ref_converted_69 rfl rfl ?_
  refine zx_l2i E dd_Ref_converted_70 ?_
  refine zx_iload_n E 2 dd_Ref_converted_71 rfl rfl ?_
  refine zx_callS_i E [.int x2] (fun rZ eZ => zt_Ref_kindOf _ _ x2 h _ eZ) zc_Ref_142 ⟨by decide, by decide⟩ (Nat.zero_le _) (Nat.zero_le _) rfl rfl (Nat.le_of_ble_eq_true rfl) dd_Ref_converted_72 (fun r6 => ?_)
  refine zx_callV_lw (T := zx_TRef) E [.int (x3.toInt32), .int r6] (fun rZ eZ => zt_Ref_fromText _ _ (x3.toInt32) r6 h _ eZ) zg_24 Nat.zero_lt_one rfl zc_Ref_311 ⟨by decide, by decide⟩ (Nat.zero_le _) (Nat.zero_le _) rfl rfl (Nat.le_of_ble_eq_true rfl) dd_Ref_converted_75 (fun r7 => ?_)
  refine zx_goto E 88 dd_Ref_converted_78 rfl ?_
  exact zx_lret E rfl rfl dd_Ref_converted_88
set_option maxHeartbeats 4000000 in
set_option maxRecDepth 20000 in
theorem zt_Ref_converted (l : Launch) (K : zx_K) (a1 : Int32) (a2 : Int32) (a3 : Int64) (h : zx_H) (r : (Int64 × zx_H)) (hf : zs_Ref_converted a1 a2 a3 h = some r) : zx_MR l zm_Ref_converted zy_Ref_converted K [zx_rV K 24 0, .int a1, .int a2, .long a3] h (some (.long r.1)) r.2 := by
  refine zx_ofM (M := zm_Ref_converted) (y := zy_Ref_converted) (r := r) (as := [zx_rV K 24 0, .int a1, .int a2, .long a3]) (ρ := (fun r => ((some (Value.long r.1) : Option Value), r.2))) (by decide) rfl hf (Nat.le_of_ble_eq_true rfl) ?_
  intro B hl hK E
  subst hK
  subst hl
  show zx_X B zm_Ref_converted _ _ 0 0 0 [(0, zx_rV (zx_BK B) 24 0), (1, .int a1), (2, .int a2), (3, .long a3)] [] h
  unfold zs_Ref_converted
  refine zx_iload_n E 1 dd_Ref_converted_0 rfl rfl ?_
  refine zx_callS_z E [.int a1] (fun rZ eZ => zt_Ref_isAmount _ _ a1 h _ eZ) zc_Ref_139 ⟨by decide, by decide⟩ (Nat.zero_le _) (Nat.zero_le _) rfl rfl (Nat.le_of_ble_eq_true rfl) dd_Ref_converted_1 (fun r1 => ?_)
  refine zx_ifb_eq E (x := r1) 32 dd_Ref_converted_4 rfl ?_ ?_
  rotate_left
  · exact zj_Ref_converted_32 E a1 a2 a3 h
  refine zx_iload_n E 2 dd_Ref_converted_7 rfl rfl ?_
  refine zx_callS_z E [.int a2] (fun rZ eZ => zt_Ref_isAmount _ _ a2 h _ eZ) zc_Ref_139 ⟨by decide, by decide⟩ (Nat.zero_le _) (Nat.zero_le _) rfl rfl (Nat.le_of_ble_eq_true rfl) dd_Ref_converted_8 (fun r2 => ?_)
  refine zx_ifb_eq E (x := r2) 32 dd_Ref_converted_11 rfl ?_ ?_
  rotate_left
  · exact zj_Ref_converted_32 E a1 a2 a3 h
  refine zx_aload_n E 0 dd_Ref_converted_14 rfl rfl ?_
  refine zx_iload_n E 1 dd_Ref_converted_15 rfl rfl ?_
  refine zx_lload_n E 3 dd_Ref_converted_16 rfl rfl ?_
  refine zx_callV_l (T := zx_TRef) E [.int a1, .long a3] (fun rZ eZ => zt_Ref_plain _ _ a1 a3 h _ eZ) zg_24 Nat.zero_lt_one rfl zc_Ref_300 ⟨by decide, by decide⟩ (Nat.zero_le _) (Nat.zero_le _) rfl rfl (Nat.le_of_ble_eq_true rfl) dd_Ref_converted_17 (fun r3 => ?_)
  refine zx_iload_n E 1 dd_Ref_converted_20 rfl rfl ?_
  refine zx_callS_i E [.int a1] (fun rZ eZ => zt_Ref_kindOf _ _ a1 h _ eZ) zc_Ref_142 ⟨by decide, by decide⟩ (Nat.zero_le _) (Nat.zero_le _) rfl rfl (Nat.le_of_ble_eq_true rfl) dd_Ref_converted_21 (fun r4 => ?_)
  refine zx_iload_n E 2 dd_Ref_converted_24 rfl rfl ?_
  refine zx_callS_i E [.int a2] (fun rZ eZ => zt_Ref_kindOf _ _ a2 h _ eZ) zc_Ref_142 ⟨by decide, by decide⟩ (Nat.zero_le _) (Nat.zero_le _) rfl rfl (Nat.le_of_ble_eq_true rfl) dd_Ref_converted_25 (fun r5 => ?_)
  refine zx_callS_l E [.long r3, .int r4, .int r5] (fun rZ eZ => zt_Ref_castFrom _ _ r3 r4 r5 h _ eZ) zc_Ref_304 ⟨by decide, by decide⟩ (Nat.zero_le _) (Nat.zero_le _) rfl rfl (Nat.le_of_ble_eq_true rfl) dd_Ref_converted_28 (fun r6 => ?_)
  exact zx_lret E rfl rfl dd_Ref_converted_31
set_option maxHeartbeats 4000000 in
set_option maxRecDepth 20000 in
theorem zt_Ref_applied (l : Launch) (K : zx_K) (a1 : Int32) (a2 : Int64) (h : zx_H) (r : (Int64 × zx_H)) (hf : zs_Ref_applied a1 a2 h = some r) : zx_MR l zm_Ref_applied zy_Ref_applied K [zx_rV K 24 0, .int a1, .long a2] h (some (.long r.1)) r.2 := by
  refine zx_ofM (M := zm_Ref_applied) (y := zy_Ref_applied) (r := r) (as := [zx_rV K 24 0, .int a1, .long a2]) (ρ := (fun r => ((some (Value.long r.1) : Option Value), r.2))) (by decide) rfl hf (Nat.le_of_ble_eq_true rfl) ?_
  intro B hl hK E
  subst hK
  subst hl
  show zx_X B zm_Ref_applied _ _ 0 0 0 [(0, zx_rV (zx_BK B) 24 0), (1, .int a1), (2, .long a2)] [] h
  unfold zs_Ref_applied
  refine zx_aload_n E 0 dd_Ref_applied_0 rfl rfl ?_
  refine zx_aload_n E 0 dd_Ref_applied_1 rfl rfl ?_
  refine zx_getR E 37 0 zd_Ref_functionTo zg_24 Nat.zero_lt_one (zr_Ref_functionTo _) zw_1124 dd_Ref_applied_2 ?_
  refine zx_iload_n E 1 dd_Ref_applied_5 rfl rfl ?_
  refine zx_iald E zg_37 Nat.zero_lt_one dd_Ref_applied_6 ?_
  refine zx_lload_n E 2 dd_Ref_applied_7 rfl rfl ?_
  refine zx_aload_n E 0 dd_Ref_applied_8 rfl rfl ?_
  refine zx_getR E 38 0 zd_Ref_factor zg_24 Nat.zero_lt_one (zr_Ref_factor _) zw_1125 dd_Ref_applied_9 ?_
  refine zx_iload_n E 1 dd_Ref_applied_12 rfl rfl ?_
  refine zx_iald E zg_38 Nat.zero_lt_one dd_Ref_applied_13 ?_
  refine zx_i2l E dd_Ref_applied_14 ?_
  refine zx_lmul E dd_Ref_applied_15 ?_
  refine zx_aload_n E 0 dd_Ref_applied_16 rfl rfl ?_
  refine zx_getR E 39 0 zd_Ref_addend zg_24 Nat.zero_lt_one (zr_Ref_addend _) zw_1126 dd_Ref_applied_17 ?_
  refine zx_iload_n E 1 dd_Ref_applied_20 rfl rfl ?_
  refine zx_iald E zg_39 Nat.zero_lt_one dd_Ref_applied_21 ?_
  refine zx_i2l E dd_Ref_applied_22 ?_
  refine zx_ladd E dd_Ref_applied_23 ?_
  refine zx_aload_n E 0 dd_Ref_applied_24 rfl rfl ?_
  refine zx_getR E 37 0 zd_Ref_functionTo zg_24 Nat.zero_lt_one (zr_Ref_functionTo _) zw_1124 dd_Ref_applied_25 ?_
  refine zx_iload_n E 1 dd_Ref_applied_28 rfl rfl ?_
  refine zx_iald E zg_37 Nat.zero_lt_one dd_Ref_applied_29 ?_
  refine zx_callS_i E [.int (h.1 37 0 a1.toNatClampNeg)] (fun rZ eZ => zt_Ref_kindOf _ _ (h.1 37 0 a1.toNatClampNeg) h _ eZ) zc_Ref_142 ⟨by decide, by decide⟩ (Nat.zero_le _) (Nat.zero_le _) rfl rfl (Nat.le_of_ble_eq_true rfl) dd_Ref_applied_30 (fun r1 => ?_)
  refine zx_callS_l E [.long ((a2 * ((h.1 38 0 a1.toNatClampNeg).toInt64)) + ((h.1 39 0 a1.toNatClampNeg).toInt64)), .int r1] (fun rZ eZ => zt_Ref_cast _ _ ((a2 * ((h.1 38 0 a1.toNatClampNeg).toInt64)) + ((h.1 39 0 a1.toNatClampNeg).toInt64)) r1 h _ eZ) zc_Ref_224 ⟨by decide, by decide⟩ (Nat.zero_le _) (Nat.zero_le _) rfl rfl (Nat.le_of_ble_eq_true rfl) dd_Ref_applied_33 (fun r2 => ?_)
  refine zx_callV_lw (T := zx_TRef) E [.int (h.1 37 0 a1.toNatClampNeg), .long r2] (fun rZ eZ => zt_Ref_boxed _ _ (h.1 37 0 a1.toNatClampNeg) r2 h _ eZ) zg_24 Nat.zero_lt_one rfl zc_Ref_317 ⟨by decide, by decide⟩ (Nat.zero_le _) (Nat.zero_le _) rfl rfl (Nat.le_of_ble_eq_true rfl) dd_Ref_applied_36 (fun r3 => ?_)
  exact zx_lret E rfl rfl dd_Ref_applied_39
set_option maxHeartbeats 4000000 in
set_option maxRecDepth 20000 in
theorem zj_Ref_isNull_21 {B : zx_B} (E : zx_E B zm_Ref_isNull) (h : zx_H)   : zx_X B zm_Ref_isNull (zx_QM B (fun r => ((some (Value.int (zx_b r)) : Option Value), h))) (zs_Ref_isNull_J21 h  ) 0 0 21 [] [] h := by
  unfold zs_Ref_isNull_J21
  refine zx_iconst E (0 : Int32) dd_Ref_isNull_21 (by decide) ?_
  exact zx_zret E false rfl rfl rfl dd_Ref_isNull_22
set_option maxHeartbeats 4000000 in
set_option maxRecDepth 20000 in
theorem zt_Ref_isNull (l : Launch) (K : zx_K) (a1 : Int32) (a2 : Int64) (h : zx_H) (r : Bool) (hf : zs_Ref_isNull a1 a2 h = some r) : zx_MR l zm_Ref_isNull zy_Ref_isNull K [zx_rV K 24 0, .int a1, .long a2] h (some (.int (zx_b r))) h := by
  refine zx_ofM (M := zm_Ref_isNull) (y := zy_Ref_isNull) (r := r) (as := [zx_rV K 24 0, .int a1, .long a2]) (ρ := (fun r => ((some (Value.int (zx_b r)) : Option Value), h))) (by decide) rfl hf (Nat.le_of_ble_eq_true rfl) ?_
  intro B hl hK E
  subst hK
  subst hl
  show zx_X B zm_Ref_isNull _ _ 0 0 0 [(0, zx_rV (zx_BK B) 24 0), (1, .int a1), (2, .long a2)] [] h
  unfold zs_Ref_isNull
  refine zx_aload_n E 0 dd_Ref_isNull_0 rfl rfl ?_
  refine zx_getR E 25 0 zd_Ref_sort zg_24 Nat.zero_lt_one (zr_Ref_sort _) zw_1110 dd_Ref_isNull_1 ?_
  refine zx_iload_n E 1 dd_Ref_isNull_4 rfl rfl ?_
  refine zx_iald E zg_25 Nat.zero_lt_one dd_Ref_isNull_5 ?_
  refine zx_if_eq E 21 dd_Ref_isNull_6 rfl ?_ ?_
  rotate_left
  · refine zx_sub [] rfl ?_
    exact zj_Ref_isNull_21 E h
  refine zx_lload_n E 2 dd_Ref_isNull_9 rfl rfl ?_
  refine zx_ldc2 E (-1 : Int64) zw_1322 dd_Ref_isNull_10 ?_
  refine zx_lcmp_ne E 21 dd_Ref_isNull_13 dd_Ref_isNull_14 rfl ?_ ?_
  rotate_left
  · refine zx_sub [] rfl ?_
    exact zj_Ref_isNull_21 E h
  refine zx_iconst E (1 : Int32) dd_Ref_isNull_17 (by decide) ?_
  refine zx_goto E 22 dd_Ref_isNull_18 rfl ?_
  exact zx_zret E true rfl rfl rfl dd_Ref_isNull_22
set_option maxHeartbeats 4000000 in
set_option maxRecDepth 20000 in
theorem zt_Ref_wait (l : Launch) (K : zx_K) (a1 : Int32) (a2 : Int32) (a3 : Int32) (h : zx_H) (r : zx_H) (hf : zs_Ref_wait a1 a2 a3 h = some r) : zx_MR l zm_Ref_wait zy_Ref_wait K [zx_rV K 24 0, .int a1, .int a2, .int a3] h none r := by
  refine zx_ofM (M := zm_Ref_wait) (y := zy_Ref_wait) (r := r) (as := [zx_rV K 24 0, .int a1, .int a2, .int a3]) (ρ := (fun r => ((none : Option Value), r))) (by decide) rfl hf (Nat.le_of_ble_eq_true rfl) ?_
  intro B hl hK E
  subst hK
  subst hl
  show zx_X B zm_Ref_wait _ _ 0 0 0 [(0, zx_rV (zx_BK B) 24 0), (1, .int a1), (2, .int a2), (3, .int a3)] [] h
  unfold zs_Ref_wait
  refine zx_aload_n E 0 dd_Ref_wait_0 rfl rfl ?_
  refine zx_getI E zd_Ref_failed zg_24 Nat.zero_lt_one zw_1144 dd_Ref_wait_1 ?_
  refine zx_if_eq E 8 dd_Ref_wait_4 rfl ?_ ?_
  · exact zx_vret E rfl rfl dd_Ref_wait_7
  refine zx_aload_n E 0 dd_Ref_wait_8 rfl rfl ?_
  refine zx_getR E 47 0 zd_Ref_by zg_24 Nat.zero_lt_one (zr_Ref_by _) zw_1140 dd_Ref_wait_9 ?_
  refine zx_aload_n E 0 dd_Ref_wait_12 rfl rfl ?_
  refine zx_getI E zd_Ref_deep zg_24 Nat.zero_lt_one zw_1139 dd_Ref_wait_13 ?_
  refine zx_iload_n E 1 dd_Ref_wait_16 rfl rfl ?_
  refine zx_iast E zg_47 Nat.zero_lt_one dd_Ref_wait_17 ?_
  refine zx_letH (fun h1 => ?_)
  refine zx_aload_n E 0 dd_Ref_wait_18 rfl rfl ?_
  refine zx_getR E 48 0 zd_Ref_source zg_24 Nat.zero_lt_one (zr_Ref_source _) zw_1141 dd_Ref_wait_19 ?_
  refine zx_aload_n E 0 dd_Ref_wait_22 rfl rfl ?_
  refine zx_getI E zd_Ref_deep zg_24 Nat.zero_lt_one zw_1139 dd_Ref_wait_23 ?_
  refine zx_iload_n E 2 dd_Ref_wait_26 rfl rfl ?_
  refine zx_iast E zg_48 Nat.zero_lt_one dd_Ref_wait_27 ?_
  refine zx_letH (fun h2 => ?_)
  refine zx_aload_n E 0 dd_Ref_wait_28 rfl rfl ?_
  refine zx_getR E 49 0 zd_Ref_target zg_24 Nat.zero_lt_one (zr_Ref_target _) zw_1142 dd_Ref_wait_29 ?_
  refine zx_aload_n E 0 dd_Ref_wait_32 rfl rfl ?_
  refine zx_getI E zd_Ref_deep zg_24 Nat.zero_lt_one zw_1139 dd_Ref_wait_33 ?_
  refine zx_iload_n E 3 dd_Ref_wait_36 rfl rfl ?_
  refine zx_iast E zg_49 Nat.zero_lt_one dd_Ref_wait_37 ?_
  refine zx_letH (fun h3 => ?_)
  refine zx_aload_n E 0 dd_Ref_wait_38 rfl rfl ?_
  refine zx_getR E 50 0 zd_Ref_place zg_24 Nat.zero_lt_one (zr_Ref_place _) zw_1143 dd_Ref_wait_39 ?_
  refine zx_aload_n E 0 dd_Ref_wait_42 rfl rfl ?_
  refine zx_getI E zd_Ref_deep zg_24 Nat.zero_lt_one zw_1139 dd_Ref_wait_43 ?_
  refine zx_iconst E (0 : Int32) dd_Ref_wait_46 (by decide) ?_
  refine zx_iast E zg_50 Nat.zero_lt_one dd_Ref_wait_47 ?_
  refine zx_letH (fun h4 => ?_)
  refine zx_aload_n E 0 dd_Ref_wait_48 rfl rfl ?_
  refine zx_dup E dd_Ref_wait_49 rfl ?_
  refine zx_getI E zd_Ref_deep zg_24 Nat.zero_lt_one zw_1139 dd_Ref_wait_50 ?_
  refine zx_iconst E (1 : Int32) dd_Ref_wait_53 (by decide) ?_
  refine zx_iadd E dd_Ref_wait_54 ?_
  refine zx_putI E zd_Ref_deep zp_Ref_deep zg_24 Nat.zero_lt_one rfl rfl zw_1139 dd_Ref_wait_55 ?_
  refine zx_letH (fun h5 => ?_)
  exact zx_vret E rfl rfl dd_Ref_wait_58
set_option maxHeartbeats 4000000 in
set_option maxRecDepth 20000 in
theorem zj_Ref_mapped_56 {B : zx_B} (E : zx_E B zm_Ref_mapped)  (x4 : Int32) (s1 : Bool) (h : zx_H) : zx_X B zm_Ref_mapped (zx_QM B (fun r => ((some (Value.long r.1) : Option Value), r.2))) (zs_Ref_mapped_J56  x4 s1 h) 0 0 56 [(4, .int x4)] [.int (zx_b s1), zx_rV (zx_BK B) 24 0] h := by
  unfold zs_Ref_mapped_J56
  refine zx_putI E zd_Ref_failed zp_Ref_failed zg_24 Nat.zero_lt_one (zx_nb _) (zx_fb _) zw_1144 dd_Ref_mapped_56 ?_
  refine zx_letH (fun h1 => ?_)
  refine zx_iload E 0 dd_Ref_mapped_59 rfl ?_
  refine zx_i2l E dd_Ref_mapped_61 ?_
  exact zx_lret E rfl rfl dd_Ref_mapped_62
set_option maxHeartbeats 4000000 in
set_option maxRecDepth 20000 in
theorem zj_Ref_mapped_51 {B : zx_B} (E : zx_E B zm_Ref_mapped)  (x4 : Int32) (h : zx_H) : zx_X B zm_Ref_mapped (zx_QM B (fun r => ((some (Value.long r.1) : Option Value), r.2))) (zs_Ref_mapped_J51  x4 h) 0 0 51 [(4, .int x4)] [zx_rV (zx_BK B) 24 0] h := by
  unfold zs_Ref_mapped_J51
  refine zx_iconst E (1 : Int32) dd_Ref_mapped_51 (by decide) ?_
  refine zx_goto E 56 dd_Ref_mapped_52 rfl ?_
  exact zj_Ref_mapped_56 E x4 true h
set_option maxHeartbeats 4000000 in
set_option maxRecDepth 20000 in
theorem zj_Ref_mapped_34 {B : zx_B} (E : zx_E B zm_Ref_mapped)  (s0 : Int32) (h : zx_H) : zx_X B zm_Ref_mapped (zx_QM B (fun r => ((some (Value.long r.1) : Option Value), r.2))) (zs_Ref_mapped_J34  s0 h) 0 0 34 [(0, zx_rV (zx_BK B) 24 0)] [.int s0] h := by
  unfold zs_Ref_mapped_J34
  refine zx_istore E (lv1 := [(4, .int s0), (0, zx_rV (zx_BK B) 24 0)]) dd_Ref_mapped_34 (by decide) rfl ?_
  refine zx_aload_n E 1 dd_Ref_mapped_36 rfl rfl ?_
  refine zx_aload_n E 1 dd_Ref_mapped_37 rfl rfl ?_
  refine zx_getI E zd_Ref_failed zg_24 Nat.zero_lt_one zw_1144 dd_Ref_mapped_38 ?_
  refine zx_if_ne E 51 dd_Ref_mapped_41 rfl ?_ ?_
  rotate_left
  · refine zx_sub [0] rfl ?_
    exact zj_Ref_mapped_51 E s0 h
  refine zx_iload E 0 dd_Ref_mapped_44 rfl ?_
  refine zx_bipush E (-2 : Int32) dd_Ref_mapped_46 (by decide) ?_
  refine zx_icmp_ne E 55 dd_Ref_mapped_48 rfl ?_ ?_
  · refine zx_sub [0] rfl ?_
    exact zj_Ref_mapped_51 E s0 h
  refine zx_iconst E (0 : Int32) dd_Ref_mapped_55 (by decide) ?_
  refine zx_sub [0] rfl ?_
  exact zj_Ref_mapped_56 E s0 false h
set_option maxHeartbeats 4000000 in
set_option maxRecDepth 20000 in
theorem zj_Ref_mapped_111 {B : zx_B} (E : zx_E B zm_Ref_mapped)   (h : zx_H) : zx_X B zm_Ref_mapped (zx_QM B (fun r => ((some (Value.long r.1) : Option Value), r.2))) (zs_Ref_mapped_J111  h) 0 0 111 [] [] h := by
  unfold zs_Ref_mapped_J111
  refine zx_ldc2 E (-1 : Int64) zw_1322 dd_Ref_mapped_111 ?_
  exact zx_lret E rfl rfl dd_Ref_mapped_114
set_option maxHeartbeats 4000000 in
set_option maxRecDepth 20000 in
theorem zj_Ref_mapped_160 {B : zx_B} (E : zx_E B zm_Ref_mapped) (k118 : (Int32 → Int64 → Int32 → zx_H → Option (Int64 × zx_H))) (hk118 : ∀ (x1 : Int32) (x2 : Int64) (x4 : Int32) (h : zx_H), zx_X B zm_Ref_mapped (zx_QM B (fun r => ((some (Value.long r.1) : Option Value), r.2))) (k118 x1 x2 x4 h) 0 0 118 [(0, zx_rV (zx_BK B) 24 0), (1, .int x1), (2, .long x2), (4, .int x4)] [] h) (x1 : Int32) (x2 : Int64) (x4 : Int32) (h : zx_H) : zx_X B zm_Ref_mapped (zx_QM B (fun r => ((some (Value.long r.1) : Option Value), r.2))) (zs_Ref_mapped_J160 k118 x1 x2 x4 h) 0 0 160 [(0, zx_rV (zx_BK B) 24 0), (1, .int x1), (2, .long x2), (4, .int x4)] [] h := by
  unfold zs_Ref_mapped_J160
  refine zx_iinc E 3 (x4 + (1 : Int32)) (lv1 := [(4, .int (x4 + (1 : Int32))), (0, zx_rV (zx_BK B) 24 0), (1, .int x1), (2, .long x2)]) dd_Ref_mapped_160 rfl rfl (by decide) rfl ?_
  refine zx_goto E 118 dd_Ref_mapped_163 rfl ?_
  refine zx_sub [1, 2, 3, 0] rfl ?_
  exact hk118 x1 x2 (x4 + (1 : Int32)) h
set_option maxHeartbeats 4000000 in
set_option maxRecDepth 20000 in
theorem zb_Ref_mapped_118 {B : zx_B} (E : zx_E B zm_Ref_mapped)  (k118 : (Int32 → Int64 → Int32 → zx_H → Option (Int64 × zx_H))) (hk118 : ∀ (x1 : Int32) (x2 : Int64) (x4 : Int32) (h : zx_H), zx_X B zm_Ref_mapped (zx_QM B (fun r => ((some (Value.long r.1) : Option Value), r.2))) (k118 x1 x2 x4 h) 0 0 118 [(0, zx_rV (zx_BK B) 24 0), (1, .int x1), (2, .long x2), (4, .int x4)] [] h) (x1 : Int32) (x2 : Int64) (x4 : Int32) (h : zx_H) : zx_X B zm_Ref_mapped (zx_QM B (fun r => ((some (Value.long r.1) : Option Value), r.2))) (zs_Ref_mapped_L118_body  k118 x1 x2 x4 h) 0 0 118 [(0, zx_rV (zx_BK B) 24 0), (1, .int x1), (2, .long x2), (4, .int x4)] [] h := by
  unfold zs_Ref_mapped_L118_body
  refine zx_iload E 3 dd_Ref_mapped_118 rfl ?_
  refine zx_aload_n E 0 dd_Ref_mapped_120 rfl rfl ?_
  refine zx_getI E zd_Ref_known zg_24 Nat.zero_lt_one zw_1135 dd_Ref_mapped_121 ?_
  refine zx_icmp_ge E 166 dd_Ref_mapped_124 rfl ?_ ?_
  · refine zx_aload_n E 0 dd_Ref_mapped_127 rfl rfl ?_
    refine zx_getR E 44 0 zd_Ref_knownMethod zg_24 Nat.zero_lt_one (zr_Ref_knownMethod _) zw_1136 dd_Ref_mapped_128 ?_
    refine zx_iload E 3 dd_Ref_mapped_131 rfl ?_
    refine zx_iald E zg_44 Nat.zero_lt_one dd_Ref_mapped_133 ?_
    refine zx_iload_n E 1 dd_Ref_mapped_134 rfl rfl ?_
    refine zx_icmp_ne E 160 dd_Ref_mapped_135 rfl ?_ ?_
    rotate_left
    · exact zj_Ref_mapped_160 E k118 hk118 x1 x2 x4 h
    refine zx_aload_n E 0 dd_Ref_mapped_138 rfl rfl ?_
    refine zx_getR E 45 0 zd_Ref_knownSource zg_24 Nat.zero_lt_one (zr_Ref_knownSource _) zw_1137 dd_Ref_mapped_139 ?_
    refine zx_iload E 3 dd_Ref_mapped_142 rfl ?_
    refine zx_iald E zg_45 Nat.zero_lt_one dd_Ref_mapped_144 ?_
    refine zx_i2l E dd_Ref_mapped_145 ?_
    refine zx_lload_n E 2 dd_Ref_mapped_146 rfl rfl ?_
    refine zx_lcmp_ne E 160 dd_Ref_mapped_147 dd_Ref_mapped_148 rfl ?_ ?_
    rotate_left
    · exact zj_Ref_mapped_160 E k118 hk118 x1 x2 x4 h
    refine zx_aload_n E 0 dd_Ref_mapped_151 rfl rfl ?_
    refine zx_getR E 46 0 zd_Ref_knownTarget zg_24 Nat.zero_lt_one (zr_Ref_knownTarget _) zw_1138 dd_Ref_mapped_152 ?_
    refine zx_iload E 3 dd_Ref_mapped_155 rfl ?_
    refine zx_iald E zg_46 Nat.zero_lt_one dd_Ref_mapped_157 ?_
    refine zx_i2l E dd_Ref_mapped_158 ?_
    exact zx_lret E rfl rfl dd_Ref_mapped_159
  refine zx_aload_n E 0 dd_Ref_mapped_166 rfl rfl ?_
  refine zx_aload_n E 0 dd_Ref_mapped_167 rfl rfl ?_
  refine zx_getR E 31 0 zd_Ref_methodTo zg_24 Nat.zero_lt_one (zr_Ref_methodTo _) zw_1117 dd_Ref_mapped_168 ?_
  refine zx_iload_n E 1 dd_Ref_mapped_171 rfl rfl ?_
  refine zx_iald E zg_31 Nat.zero_lt_one dd_Ref_mapped_172 ?_
  refine zx_callV_iw (T := zx_TRef) E [.int (h.1 31 0 x1.toNatClampNeg)] (fun rZ eZ => zt_Ref_object _ _ (h.1 31 0 x1.toNatClampNeg) h _ eZ) zg_24 Nat.zero_lt_one rfl zc_Ref_239 ⟨by decide, by decide⟩ (Nat.zero_le _) (Nat.zero_le _) rfl rfl (Nat.le_of_ble_eq_true rfl) dd_Ref_mapped_173 (fun r1 => ?_)
  refine zx_istore E (lv1 := [(4, .int r1.1), (0, zx_rV (zx_BK B) 24 0), (1, .int x1), (2, .long x2)]) dd_Ref_mapped_176 (by decide) rfl ?_
  refine zx_iload E 0 dd_Ref_mapped_178 rfl ?_
  refine zx_if_lt E 234 dd_Ref_mapped_180 rfl ?_ ?_
  rotate_left
  · refine zx_iload E 0 dd_Ref_mapped_234 rfl ?_
    refine zx_i2l E dd_Ref_mapped_236 ?_
    exact zx_lret E rfl rfl dd_Ref_mapped_237
  refine zx_aload_n E 1 dd_Ref_mapped_183 rfl rfl ?_
  refine zx_getR E 44 0 zd_Ref_knownMethod zg_24 Nat.zero_lt_one (zr_Ref_knownMethod _) zw_1136 dd_Ref_mapped_184 ?_
  refine zx_aload_n E 1 dd_Ref_mapped_187 rfl rfl ?_
  refine zx_getI E zd_Ref_known zg_24 Nat.zero_lt_one zw_1135 dd_Ref_mapped_188 ?_
  refine zx_iload_n E 2 dd_Ref_mapped_191 rfl rfl ?_
  refine zx_iast E zg_44 Nat.zero_lt_one dd_Ref_mapped_192 ?_
  refine zx_letH (fun h2 => ?_)
  refine zx_aload_n E 1 dd_Ref_mapped_193 rfl rfl ?_
  refine zx_getR E 45 0 zd_Ref_knownSource zg_24 Nat.zero_lt_one (zr_Ref_knownSource _) zw_1137 dd_Ref_mapped_194 ?_
  refine zx_aload_n E 1 dd_Ref_mapped_197 rfl rfl ?_
  refine zx_getI E zd_Ref_known zg_24 Nat.zero_lt_one zw_1135 dd_Ref_mapped_198 ?_
  refine zx_lload_n E 3 dd_Ref_mapped_201 rfl rfl ?_
  refine zx_l2i E dd_Ref_mapped_202 ?_
  refine zx_iast E zg_45 Nat.zero_lt_one dd_Ref_mapped_203 ?_
  refine zx_letH (fun h3 => ?_)
  refine zx_aload_n E 1 dd_Ref_mapped_204 rfl rfl ?_
  refine zx_getR E 46 0 zd_Ref_knownTarget zg_24 Nat.zero_lt_one (zr_Ref_knownTarget _) zw_1138 dd_Ref_mapped_205 ?_
  refine zx_aload_n E 1 dd_Ref_mapped_208 rfl rfl ?_
  refine zx_getI E zd_Ref_known zg_24 Nat.zero_lt_one zw_1135 dd_Ref_mapped_209 ?_
  refine zx_iload E 0 dd_Ref_mapped_212 rfl ?_
  refine zx_iast E zg_46 Nat.zero_lt_one dd_Ref_mapped_214 ?_
  refine zx_letH (fun h4 => ?_)
  refine zx_aload_n E 1 dd_Ref_mapped_215 rfl rfl ?_
  refine zx_dup E dd_Ref_mapped_216 rfl ?_
  refine zx_getI E zd_Ref_known zg_24 Nat.zero_lt_one zw_1135 dd_Ref_mapped_217 ?_
  refine zx_iconst E (1 : Int32) dd_Ref_mapped_220 (by decide) ?_
  refine zx_iadd E dd_Ref_mapped_221 ?_
  refine zx_putI E zd_Ref_known zp_Ref_known zg_24 Nat.zero_lt_one rfl rfl zw_1135 dd_Ref_mapped_222 ?_
  refine zx_letH (fun h5 => ?_)
  refine zx_aload_n E 1 dd_Ref_mapped_225 rfl rfl ?_
  refine zx_iload_n E 2 dd_Ref_mapped_226 rfl rfl ?_
  refine zx_lload_n E 3 dd_Ref_mapped_227 rfl rfl ?_
  refine zx_l2i E dd_Ref_mapped_228 ?_
  refine zx_iload E 0 dd_Ref_mapped_229 rfl ?_
  refine zx_callV_v (T := zx_TRef) E [.int x1, .int (x2.toInt32), .int r1.1] (fun rZ eZ => zt_Ref_wait _ _ x1 (x2.toInt32) r1.1 h5 _ eZ) zg_24 Nat.zero_lt_one rfl zc_Ref_326 ⟨by decide, by decide⟩ (Nat.zero_le _) (Nat.zero_le _) rfl rfl (Nat.le_of_ble_eq_true rfl) dd_Ref_mapped_231 (fun r6 => ?_)
  refine zx_iload E 0 dd_Ref_mapped_234 rfl ?_
  refine zx_i2l E dd_Ref_mapped_236 ?_
  exact zx_lret E rfl rfl dd_Ref_mapped_237
theorem zj_Ref_mapped_118 {B : zx_B} (E : zx_E B zm_Ref_mapped)  : ∀ (x1 : Int32) (x2 : Int64) (x4 : Int32) (h : zx_H), zx_X B zm_Ref_mapped (zx_QM B (fun r => ((some (Value.long r.1) : Option Value), r.2))) (zs_Ref_mapped_L118  x1 x2 x4 h) 0 0 118 [(0, zx_rV (zx_BK B) 24 0), (1, .int x1), (2, .long x2), (4, .int x4)] [] h := by
  unfold zs_Ref_mapped_L118
  generalize zx_fuel = n
  induction n with
  | zero => intros; exact zx_non
  | succ n ih => intro x1 x2 x4 h; exact zb_Ref_mapped_118 E  _ ih x1 x2 x4 h
set_option maxHeartbeats 4000000 in
set_option maxRecDepth 20000 in
theorem zt_Ref_mapped (l : Launch) (K : zx_K) (a1 : Int32) (a2 : Int64) (h : zx_H) (r : (Int64 × zx_H)) (hf : zs_Ref_mapped a1 a2 h = some r) : zx_MR l zm_Ref_mapped zy_Ref_mapped K [zx_rV K 24 0, .int a1, .long a2] h (some (.long r.1)) r.2 := by
  refine zx_ofM (M := zm_Ref_mapped) (y := zy_Ref_mapped) (r := r) (as := [zx_rV K 24 0, .int a1, .long a2]) (ρ := (fun r => ((some (Value.long r.1) : Option Value), r.2))) (by decide) rfl hf (Nat.le_of_ble_eq_true rfl) ?_
  intro B hl hK E
  subst hK
  subst hl
  show zx_X B zm_Ref_mapped _ _ 0 0 0 [(0, zx_rV (zx_BK B) 24 0), (1, .int a1), (2, .long a2)] [] h
  unfold zs_Ref_mapped
  refine zx_aload_n E 0 dd_Ref_mapped_0 rfl rfl ?_
  refine zx_getR E 25 0 zd_Ref_sort zg_24 Nat.zero_lt_one (zr_Ref_sort _) zw_1110 dd_Ref_mapped_1 ?_
  refine zx_aload_n E 0 dd_Ref_mapped_4 rfl rfl ?_
  refine zx_getR E 30 0 zd_Ref_methodFrom zg_24 Nat.zero_lt_one (zr_Ref_methodFrom _) zw_1116 dd_Ref_mapped_5 ?_
  refine zx_iload_n E 1 dd_Ref_mapped_8 rfl rfl ?_
  refine zx_iald E zg_30 Nat.zero_lt_one dd_Ref_mapped_9 ?_
  refine zx_iald E zg_25 Nat.zero_lt_one dd_Ref_mapped_10 ?_
  refine zx_iconst E (3 : Int32) dd_Ref_mapped_11 (by decide) ?_
  refine zx_icmp_ne E 63 dd_Ref_mapped_12 rfl ?_ ?_
  · refine zx_lload_n E 2 dd_Ref_mapped_15 rfl rfl ?_
    refine zx_ldc2 E (-1 : Int64) zw_1322 dd_Ref_mapped_16 ?_
    refine zx_lcmp_ne E 27 dd_Ref_mapped_19 dd_Ref_mapped_20 rfl ?_ ?_
    · refine zx_iconst E (-1 : Int32) dd_Ref_mapped_23 (by decide) ?_
      refine zx_goto E 34 dd_Ref_mapped_24 rfl ?_
      refine zx_sub [0] rfl ?_
      exact zj_Ref_mapped_34 E (-1 : Int32) h
    refine zx_aload_n E 0 dd_Ref_mapped_27 rfl rfl ?_
    refine zx_iload_n E 1 dd_Ref_mapped_28 rfl rfl ?_
    refine zx_lload_n E 2 dd_Ref_mapped_29 rfl rfl ?_
    refine zx_l2i E dd_Ref_mapped_30 ?_
    refine zx_callV_i (T := zx_TRef) E [.int a1, .int (a2.toInt32)] (fun rZ eZ => zt_Ref_constantOf _ _ a1 (a2.toInt32) h _ eZ) zg_24 Nat.zero_lt_one rfl zc_Ref_214 ⟨by decide, by decide⟩ (Nat.zero_le _) (Nat.zero_le _) rfl rfl (Nat.le_of_ble_eq_true rfl) dd_Ref_mapped_31 (fun r1 => ?_)
    refine zx_sub [0] rfl ?_
    exact zj_Ref_mapped_34 E r1 h
  refine zx_lload_n E 2 dd_Ref_mapped_63 rfl rfl ?_
  refine zx_ldc2 E (-1 : Int64) zw_1322 dd_Ref_mapped_64 ?_
  refine zx_lcmp_ne E 115 dd_Ref_mapped_67 dd_Ref_mapped_68 rfl ?_ ?_
  rotate_left
  · refine zx_iconst E (0 : Int32) dd_Ref_mapped_115 (by decide) ?_
    refine zx_istore E (lv1 := [(4, .int (0 : Int32)), (0, zx_rV (zx_BK B) 24 0), (1, .int a1), (2, .long a2)]) dd_Ref_mapped_116 (by decide) rfl ?_
    refine zx_sub [1, 2, 3, 0] rfl ?_
    exact zj_Ref_mapped_118 E a1 a2 (0 : Int32) h
  refine zx_aload_n E 0 dd_Ref_mapped_71 rfl rfl ?_
  refine zx_iload_n E 1 dd_Ref_mapped_72 rfl rfl ?_
  refine zx_bipush E (8 : Int32) dd_Ref_mapped_73 (by decide) ?_
  refine zx_callV_i (T := zx_TRef) E [.int a1, .int (8 : Int32)] (fun rZ eZ => zt_Ref_latest _ _ a1 (8 : Int32) h _ eZ) zg_24 Nat.zero_lt_one rfl zc_Ref_148 ⟨by decide, by decide⟩ (Nat.zero_le _) (Nat.zero_le _) rfl rfl (Nat.le_of_ble_eq_true rfl) dd_Ref_mapped_75 (fun r2 => ?_)
  refine zx_istore E (lv1 := [(4, .int r2), (0, zx_rV (zx_BK B) 24 0), (1, .int a1), (2, .long a2)]) dd_Ref_mapped_78 (by decide) rfl ?_
  refine zx_iload E 0 dd_Ref_mapped_80 rfl ?_
  refine zx_if_lt E 111 dd_Ref_mapped_82 rfl ?_ ?_
  rotate_left
  · refine zx_sub [] rfl ?_
    exact zj_Ref_mapped_111 E h
  refine zx_aload_n E 1 dd_Ref_mapped_85 rfl rfl ?_
  refine zx_getR E 35 0 zd_Ref_whats zg_24 Nat.zero_lt_one (zr_Ref_whats _) zw_1121 dd_Ref_mapped_86 ?_
  refine zx_iload E 0 dd_Ref_mapped_89 rfl ?_
  refine zx_lald E zg_35 Nat.zero_lt_one dd_Ref_mapped_91 ?_
  refine zx_lconst E (1 : Int64) dd_Ref_mapped_92 rfl ?_
  refine zx_lcmp_ne E 111 dd_Ref_mapped_93 dd_Ref_mapped_94 rfl ?_ ?_
  rotate_left
  · refine zx_sub [] rfl ?_
    exact zj_Ref_mapped_111 E h
  refine zx_aload_n E 1 dd_Ref_mapped_97 rfl rfl ?_
  refine zx_aload_n E 1 dd_Ref_mapped_98 rfl rfl ?_
  refine zx_getR E 31 0 zd_Ref_methodTo zg_24 Nat.zero_lt_one (zr_Ref_methodTo _) zw_1117 dd_Ref_mapped_99 ?_
  refine zx_iload_n E 2 dd_Ref_mapped_102 rfl rfl ?_
  refine zx_iald E zg_31 Nat.zero_lt_one dd_Ref_mapped_103 ?_
  refine zx_callV_iw (T := zx_TRef) E [.int (h.1 31 0 a1.toNatClampNeg)] (fun rZ eZ => zt_Ref_object _ _ (h.1 31 0 a1.toNatClampNeg) h _ eZ) zg_24 Nat.zero_lt_one rfl zc_Ref_239 ⟨by decide, by decide⟩ (Nat.zero_le _) (Nat.zero_le _) rfl rfl (Nat.le_of_ble_eq_true rfl) dd_Ref_mapped_104 (fun r3 => ?_)
  refine zx_i2l E dd_Ref_mapped_107 ?_
  refine zx_goto E 114 dd_Ref_mapped_108 rfl ?_
  exact zx_lret E rfl rfl dd_Ref_mapped_114
set_option maxHeartbeats 4000000 in
set_option maxRecDepth 20000 in
theorem zj_Ref_become_43 {B : zx_B} (E : zx_E B zm_Ref_become)  (x1 : Int32) (x2 : Int32) (x3 : Int64) (x5 : Int32) (h : zx_H) : zx_X B zm_Ref_become (zx_QM B (fun r => ((some (Value.long r.1) : Option Value), r.2))) (zs_Ref_become_J43  x1 x2 x3 x5 h) 0 0 43 [(0, zx_rV (zx_BK B) 24 0), (1, .int x1), (2, .int x2), (3, .long x3), (5, .int x5)] [] h := by
  unfold zs_Ref_become_J43
  refine zx_aload_n E 0 dd_Ref_become_43 rfl rfl ?_
  refine zx_iload_n E 1 dd_Ref_become_44 rfl rfl ?_
  refine zx_lload_n E 3 dd_Ref_become_45 rfl rfl ?_
  refine zx_callV_z (T := zx_TRef) E [.int x1, .long x3] (fun rZ eZ => zt_Ref_isNull _ _ x1 x3 h _ eZ) zg_24 Nat.zero_lt_one rfl zc_Ref_323 ⟨by decide, by decide⟩ (Nat.zero_le _) (Nat.zero_le _) rfl rfl (Nat.le_of_ble_eq_true rfl) dd_Ref_become_46 (fun r1 => ?_)
  refine zx_ifb_eq E (x := r1) 58 dd_Ref_become_49 rfl ?_ ?_
  · refine zx_aload_n E 0 dd_Ref_become_52 rfl rfl ?_
    refine zx_iload_n E 2 dd_Ref_become_53 rfl rfl ?_
    refine zx_callV_l (T := zx_TRef) E [.int x2] (fun rZ eZ => zt_Ref_empty _ _ x2 h _ eZ) zg_24 Nat.zero_lt_one rfl zc_Ref_231 ⟨by decide, by decide⟩ (Nat.zero_le _) (Nat.zero_le _) rfl rfl (Nat.le_of_ble_eq_true rfl) dd_Ref_become_54 (fun r2 => ?_)
    exact zx_lret E rfl rfl dd_Ref_become_57
  refine zx_iload E 4 dd_Ref_become_58 rfl ?_
  refine zx_iconst E (2 : Int32) dd_Ref_become_60 (by decide) ?_
  refine zx_icmp_ne E 84 dd_Ref_become_61 rfl ?_ ?_
  · refine zx_aload_n E 0 dd_Ref_become_64 rfl rfl ?_
    refine zx_iload_n E 2 dd_Ref_become_65 rfl rfl ?_
    refine zx_callV_iw (T := zx_TRef) E [.int x2] (fun rZ eZ => zt_Ref_object _ _ x2 h _ eZ) zg_24 Nat.zero_lt_one rfl zc_Ref_239 ⟨by decide, by decide⟩ (Nat.zero_le _) (Nat.zero_le _) rfl rfl (Nat.le_of_ble_eq_true rfl) dd_Ref_become_66 (fun r3 => ?_)
    refine zx_istore E (lv1 := [(6, .int r3.1), (0, zx_rV (zx_BK B) 24 0), (1, .int x1), (2, .int x2), (3, .long x3), (5, .int x5)]) dd_Ref_become_69 (by decide) rfl ?_
    refine zx_aload_n E 1 dd_Ref_become_71 rfl rfl ?_
    refine zx_iconst E (-1 : Int32) dd_Ref_become_72 (by decide) ?_
    refine zx_lload_n E 4 dd_Ref_become_73 rfl rfl ?_
    refine zx_l2i E dd_Ref_become_74 ?_
    refine zx_iload E 0 dd_Ref_become_75 rfl ?_
    refine zx_callV_v (T := zx_TRef) E [.int (-1 : Int32), .int (x3.toInt32), .int r3.1] (fun rZ eZ => zt_Ref_wait _ _ (-1 : Int32) (x3.toInt32) r3.1 r3.2 _ eZ) zg_24 Nat.zero_lt_one rfl zc_Ref_326 ⟨by decide, by decide⟩ (Nat.zero_le _) (Nat.zero_le _) rfl rfl (Nat.le_of_ble_eq_true rfl) dd_Ref_become_77 (fun r4 => ?_)
    refine zx_iload E 0 dd_Ref_become_80 rfl ?_
    refine zx_i2l E dd_Ref_become_82 ?_
    exact zx_lret E rfl rfl dd_Ref_become_83
  refine zx_iload E 4 dd_Ref_become_84 rfl ?_
  refine zx_sipush E (300 : Int32) dd_Ref_become_86 (by decide) ?_
  refine zx_icmp_lt E 135 dd_Ref_become_89 rfl ?_ ?_
  · refine zx_iload E 4 dd_Ref_become_92 rfl ?_
    refine zx_sipush E (300 : Int32) dd_Ref_become_94 (by decide) ?_
    refine zx_isub E dd_Ref_become_97 ?_
    refine zx_leti (fun y5 => ?_)
    refine zx_istore E (lv1 := [(6, .int y5), (0, zx_rV (zx_BK B) 24 0), (1, .int x1), (2, .int x2), (3, .long x3), (5, .int x5)]) dd_Ref_become_98 (by decide) rfl ?_
    refine zx_aload_n E 1 dd_Ref_become_100 rfl rfl ?_
    refine zx_iload_n E 2 dd_Ref_become_101 rfl rfl ?_
    refine zx_aload_n E 1 dd_Ref_become_102 rfl rfl ?_
    refine zx_getR E 36 0 zd_Ref_functionFrom zg_24 Nat.zero_lt_one (zr_Ref_functionFrom _) zw_1123 dd_Ref_become_103 ?_
    refine zx_iload E 0 dd_Ref_become_106 rfl ?_
    refine zx_iald E zg_36 Nat.zero_lt_one dd_Ref_become_108 ?_
    refine zx_lload_n E 4 dd_Ref_become_109 rfl rfl ?_
    refine zx_callV_lw (T := zx_TRef) E [.int x1, .int (h.1 36 0 y5.toNatClampNeg), .long x3] (fun rZ eZ => zt_Ref_converted _ _ x1 (h.1 36 0 y5.toNatClampNeg) x3 h _ eZ) zg_24 Nat.zero_lt_one rfl zc_Ref_330 ⟨by decide, by decide⟩ (Nat.zero_le _) (Nat.zero_le _) rfl rfl (Nat.le_of_ble_eq_true rfl) dd_Ref_become_110 (fun r6 => ?_)
    refine zx_lstore E (lv1 := [(7, .long r6.1), (6, .int y5), (0, zx_rV (zx_BK B) 24 0), (1, .int x1), (2, .int x2), (3, .long x3), (5, .int x5)]) dd_Ref_become_113 (by decide) rfl ?_
    refine zx_aload_n E 2 dd_Ref_become_115 rfl rfl ?_
    refine zx_getI E zd_Ref_failed zg_24 Nat.zero_lt_one zw_1144 dd_Ref_become_116 ?_
    refine zx_if_eq E 126 dd_Ref_become_119 rfl ?_ ?_
    · refine zx_lconst E (0 : Int64) dd_Ref_become_122 rfl ?_
      refine zx_goto E 134 dd_Ref_become_123 rfl ?_
      exact zx_lret E rfl rfl dd_Ref_become_134
    refine zx_aload_n E 2 dd_Ref_become_126 rfl rfl ?_
    refine zx_iload E 1 dd_Ref_become_127 rfl ?_
    refine zx_lload E 0 dd_Ref_become_129 rfl ?_
    refine zx_callV_lw (T := zx_TRef) E [.int y5, .long r6.1] (fun rZ eZ => zt_Ref_applied _ _ y5 r6.1 r6.2 _ eZ) zg_24 Nat.zero_lt_one rfl zc_Ref_334 ⟨by decide, by decide⟩ (Nat.zero_le _) (Nat.zero_le _) rfl rfl (Nat.le_of_ble_eq_true rfl) dd_Ref_become_131 (fun r7 => ?_)
    exact zx_lret E rfl rfl dd_Ref_become_134
  refine zx_iload E 4 dd_Ref_become_135 rfl ?_
  refine zx_bipush E (100 : Int32) dd_Ref_become_137 (by decide) ?_
  refine zx_icmp_lt E 158 dd_Ref_become_139 rfl ?_ ?_
  · refine zx_aload_n E 0 dd_Ref_become_142 rfl rfl ?_
    refine zx_iload E 4 dd_Ref_become_143 rfl ?_
    refine zx_bipush E (100 : Int32) dd_Ref_become_145 (by decide) ?_
    refine zx_isub E dd_Ref_become_147 ?_
    refine zx_aload_n E 0 dd_Ref_become_148 rfl rfl ?_
    refine zx_iload_n E 1 dd_Ref_become_149 rfl rfl ?_
    refine zx_lload_n E 3 dd_Ref_become_150 rfl rfl ?_
    refine zx_callV_l (T := zx_TRef) E [.int x1, .long x3] (fun rZ eZ => zt_Ref_plain _ _ x1 x3 h _ eZ) zg_24 Nat.zero_lt_one rfl zc_Ref_300 ⟨by decide, by decide⟩ (Nat.zero_le _) (Nat.zero_le _) rfl rfl (Nat.le_of_ble_eq_true rfl) dd_Ref_become_151 (fun r8 => ?_)
    refine zx_callV_lw (T := zx_TRef) E [.int (x5 - (100 : Int32)), .long r8] (fun rZ eZ => zt_Ref_applied _ _ (x5 - (100 : Int32)) r8 h _ eZ) zg_24 Nat.zero_lt_one rfl zc_Ref_334 ⟨by decide, by decide⟩ (Nat.zero_le _) (Nat.zero_le _) rfl rfl (Nat.le_of_ble_eq_true rfl) dd_Ref_become_154 (fun r9 => ?_)
    exact zx_lret E rfl rfl dd_Ref_become_157
  refine zx_aload_n E 0 dd_Ref_become_158 rfl rfl ?_
  refine zx_iload_n E 1 dd_Ref_become_159 rfl rfl ?_
  refine zx_iload_n E 2 dd_Ref_become_160 rfl rfl ?_
  refine zx_lload_n E 3 dd_Ref_become_161 rfl rfl ?_
  refine zx_callV_lw (T := zx_TRef) E [.int x1, .int x2, .long x3] (fun rZ eZ => zt_Ref_converted _ _ x1 x2 x3 h _ eZ) zg_24 Nat.zero_lt_one rfl zc_Ref_330 ⟨by decide, by decide⟩ (Nat.zero_le _) (Nat.zero_le _) rfl rfl (Nat.le_of_ble_eq_true rfl) dd_Ref_become_162 (fun r10 => ?_)
  refine zx_lstore E (lv1 := [(6, .long r10.1), (0, zx_rV (zx_BK B) 24 0), (1, .int x1), (2, .int x2), (3, .long x3), (5, .int x5)]) dd_Ref_become_165 (by decide) rfl ?_
  refine zx_iload_n E 3 dd_Ref_become_167 rfl rfl ?_
  refine zx_callS_z E [.int x2] (fun rZ eZ => zt_Ref_isAmount _ _ x2 r10.2 _ eZ) zc_Ref_139 ⟨by decide, by decide⟩ (Nat.zero_le _) (Nat.zero_le _) rfl rfl (Nat.le_of_ble_eq_true rfl) dd_Ref_become_168 (fun r11 => ?_)
  refine zx_ifb_eq E (x := r11) 184 dd_Ref_become_171 rfl ?_ ?_
  rotate_left
  · refine zx_lload E 0 dd_Ref_become_184 rfl ?_
    exact zx_lret E rfl rfl dd_Ref_become_186
  refine zx_aload_n E 1 dd_Ref_become_174 rfl rfl ?_
  refine zx_iload_n E 3 dd_Ref_become_175 rfl rfl ?_
  refine zx_lload E 0 dd_Ref_become_176 rfl ?_
  refine zx_callV_lw (T := zx_TRef) E [.int x2, .long r10.1] (fun rZ eZ => zt_Ref_boxed _ _ x2 r10.1 r10.2 _ eZ) zg_24 Nat.zero_lt_one rfl zc_Ref_317 ⟨by decide, by decide⟩ (Nat.zero_le _) (Nat.zero_le _) rfl rfl (Nat.le_of_ble_eq_true rfl) dd_Ref_become_178 (fun r12 => ?_)
  refine zx_goto E 186 dd_Ref_become_181 rfl ?_
  exact zx_lret E rfl rfl dd_Ref_become_186
set_option maxHeartbeats 4000000 in
set_option maxRecDepth 20000 in
theorem zt_Ref_become (l : Launch) (K : zx_K) (a1 : Int32) (a2 : Int32) (a3 : Int64) (h : zx_H) (r : (Int64 × zx_H)) (hf : zs_Ref_become a1 a2 a3 h = some r) : zx_MR l zm_Ref_become zy_Ref_become K [zx_rV K 24 0, .int a1, .int a2, .long a3] h (some (.long r.1)) r.2 := by
  refine zx_ofM (M := zm_Ref_become) (y := zy_Ref_become) (r := r) (as := [zx_rV K 24 0, .int a1, .int a2, .long a3]) (ρ := (fun r => ((some (Value.long r.1) : Option Value), r.2))) (by decide) rfl hf (Nat.le_of_ble_eq_true rfl) ?_
  intro B hl hK E
  subst hK
  subst hl
  show zx_X B zm_Ref_become _ _ 0 0 0 [(0, zx_rV (zx_BK B) 24 0), (1, .int a1), (2, .int a2), (3, .long a3)] [] h
  unfold zs_Ref_become
  refine zx_aload_n E 0 dd_Ref_become_0 rfl rfl ?_
  refine zx_iload_n E 1 dd_Ref_become_1 rfl rfl ?_
  refine zx_iload_n E 2 dd_Ref_become_2 rfl rfl ?_
  refine zx_callV_i (T := zx_TRef) E [.int a1, .int a2] (fun rZ eZ => zt_Ref_how _ _ a1 a2 h _ eZ) zg_24 Nat.zero_lt_one rfl zc_Ref_192 ⟨by decide, by decide⟩ (Nat.zero_le _) (Nat.zero_le _) rfl rfl (Nat.le_of_ble_eq_true rfl) dd_Ref_become_3 (fun r1 => ?_)
  refine zx_istore E (lv1 := [(5, .int r1), (0, zx_rV (zx_BK B) 24 0), (1, .int a1), (2, .int a2), (3, .long a3)]) dd_Ref_become_6 (by decide) rfl ?_
  refine zx_iload E 0 dd_Ref_become_8 rfl ?_
  refine zx_if_ne E 15 dd_Ref_become_10 rfl ?_ ?_
  · refine zx_lload_n E 4 dd_Ref_become_13 rfl rfl ?_
    exact zx_lret E rfl rfl dd_Ref_become_14
  refine zx_iload E 0 dd_Ref_become_15 rfl ?_
  refine zx_sipush E (200 : Int32) dd_Ref_become_17 (by decide) ?_
  refine zx_icmp_lt E 43 dd_Ref_become_20 rfl ?_ ?_
  rotate_left
  · refine zx_sub [1, 2, 3, 4, 0] rfl ?_
    exact zj_Ref_become_43 E a1 a2 a3 r1 h
  refine zx_iload E 0 dd_Ref_become_23 rfl ?_
  refine zx_sipush E (300 : Int32) dd_Ref_become_25 (by decide) ?_
  refine zx_icmp_ge E 43 dd_Ref_become_28 rfl ?_ ?_
  rotate_left
  · refine zx_sub [1, 2, 3, 4, 0] rfl ?_
    exact zj_Ref_become_43 E a1 a2 a3 r1 h
  refine zx_aload_n E 1 dd_Ref_become_31 rfl rfl ?_
  refine zx_iload E 0 dd_Ref_become_32 rfl ?_
  refine zx_sipush E (200 : Int32) dd_Ref_become_34 (by decide) ?_
  refine zx_isub E dd_Ref_become_37 ?_
  refine zx_lload_n E 4 dd_Ref_become_38 rfl rfl ?_
  refine zx_callV_lw (T := zx_TRef) E [.int (r1 - (200 : Int32)), .long a3] (fun rZ eZ => zt_Ref_mapped _ _ (r1 - (200 : Int32)) a3 h _ eZ) zg_24 Nat.zero_lt_one rfl zc_Ref_320 ⟨by decide, by decide⟩ (Nat.zero_le _) (Nat.zero_le _) rfl rfl (Nat.le_of_ble_eq_true rfl) dd_Ref_become_39 (fun r2 => ?_)
  exact zx_lret E rfl rfl dd_Ref_become_42
set_option maxHeartbeats 4000000 in
set_option maxRecDepth 20000 in
theorem zt_Ref_fillList (l : Launch) (K : zx_K)  (h : zx_H) (r : zx_H) (hf : zs_Ref_fillList  h = some r) : zx_MR l zm_Ref_fillList zy_Ref_fillList K [zx_rV K 24 0] h none r := by
  refine zx_ofM (M := zm_Ref_fillList) (y := zy_Ref_fillList) (r := r) (as := [zx_rV K 24 0]) (ρ := (fun r => ((none : Option Value), r))) (by decide) rfl hf (Nat.le_of_ble_eq_true rfl) ?_
  intro B hl hK E
  subst hK
  subst hl
  show zx_X B zm_Ref_fillList _ _ 0 0 0 [(0, zx_rV (zx_BK B) 24 0)] [] h
  unfold zs_Ref_fillList
  refine zx_aload_n E 0 dd_Ref_fillList_0 rfl rfl ?_
  refine zx_getI E zd_Ref_deep zg_24 Nat.zero_lt_one zw_1139 dd_Ref_fillList_1 ?_
  refine zx_iconst E (1 : Int32) dd_Ref_fillList_4 (by decide) ?_
  refine zx_isub E dd_Ref_fillList_5 ?_
  refine zx_leti (fun y1 => ?_)
  refine zx_istore_n E (lv1 := [(1, .int y1), (0, zx_rV (zx_BK B) 24 0)]) dd_Ref_fillList_6 rfl (by decide) rfl ?_
  refine zx_aload_n E 1 dd_Ref_fillList_7 rfl rfl ?_
  refine zx_getR E 48 0 zd_Ref_source zg_24 Nat.zero_lt_one (zr_Ref_source _) zw_1141 dd_Ref_fillList_8 ?_
  refine zx_iload_n E 0 dd_Ref_fillList_11 rfl rfl ?_
  refine zx_iald E zg_48 Nat.zero_lt_one dd_Ref_fillList_12 ?_
  refine zx_leti (fun y2 => ?_)
  refine zx_istore_n E (lv1 := [(2, .int y2), (1, .int y1), (0, zx_rV (zx_BK B) 24 0)]) dd_Ref_fillList_13 rfl (by decide) rfl ?_
  refine zx_aload_n E 2 dd_Ref_fillList_14 rfl rfl ?_
  refine zx_getR E 49 0 zd_Ref_target zg_24 Nat.zero_lt_one (zr_Ref_target _) zw_1142 dd_Ref_fillList_15 ?_
  refine zx_iload_n E 1 dd_Ref_fillList_18 rfl rfl ?_
  refine zx_iald E zg_49 Nat.zero_lt_one dd_Ref_fillList_19 ?_
  refine zx_leti (fun y3 => ?_)
  refine zx_istore_n E (lv1 := [(3, .int y3), (2, .int y2), (1, .int y1), (0, zx_rV (zx_BK B) 24 0)]) dd_Ref_fillList_20 rfl (by decide) rfl ?_
  refine zx_aload_n E 3 dd_Ref_fillList_21 rfl rfl ?_
  refine zx_getR E 50 0 zd_Ref_place zg_24 Nat.zero_lt_one (zr_Ref_place _) zw_1143 dd_Ref_fillList_22 ?_
  refine zx_iload_n E 2 dd_Ref_fillList_25 rfl rfl ?_
  refine zx_iald E zg_50 Nat.zero_lt_one dd_Ref_fillList_26 ?_
  refine zx_leti (fun y4 => ?_)
  refine zx_istore E (lv1 := [(4, .int y4), (3, .int y3), (2, .int y2), (1, .int y1), (0, zx_rV (zx_BK B) 24 0)]) dd_Ref_fillList_27 (by decide) rfl ?_
  refine zx_iload E 0 dd_Ref_fillList_29 rfl ?_
  refine zx_aload_n E 4 dd_Ref_fillList_31 rfl rfl ?_
  refine zx_getR E 41 0 zd_Ref_count zg_24 Nat.zero_lt_one (zr_Ref_count _) zw_1132 dd_Ref_fillList_32 ?_
  refine zx_iload_n E 2 dd_Ref_fillList_35 rfl rfl ?_
  refine zx_iald E zg_41 Nat.zero_lt_one dd_Ref_fillList_36 ?_
  refine zx_icmp_ne E 51 dd_Ref_fillList_37 rfl ?_ ?_
  · refine zx_aload_n E 4 dd_Ref_fillList_40 rfl rfl ?_
    refine zx_dup E dd_Ref_fillList_41 rfl ?_
    refine zx_getI E zd_Ref_deep zg_24 Nat.zero_lt_one zw_1139 dd_Ref_fillList_42 ?_
    refine zx_iconst E (1 : Int32) dd_Ref_fillList_45 (by decide) ?_
    refine zx_isub E dd_Ref_fillList_46 ?_
    refine zx_putI E zd_Ref_deep zp_Ref_deep zg_24 Nat.zero_lt_one rfl rfl zw_1139 dd_Ref_fillList_47 ?_
    refine zx_letH (fun h5 => ?_)
    exact zx_vret E rfl rfl dd_Ref_fillList_50
  refine zx_aload_n E 4 dd_Ref_fillList_51 rfl rfl ?_
  refine zx_getR E 50 0 zd_Ref_place zg_24 Nat.zero_lt_one (zr_Ref_place _) zw_1143 dd_Ref_fillList_52 ?_
  refine zx_iload_n E 3 dd_Ref_fillList_55 rfl rfl ?_
  refine zx_dup2 E dd_Ref_fillList_56 rfl rfl ?_
  refine zx_iald E zg_50 Nat.zero_lt_one dd_Ref_fillList_57 ?_
  refine zx_iconst E (1 : Int32) dd_Ref_fillList_58 (by decide) ?_
  refine zx_iadd E dd_Ref_fillList_59 ?_
  refine zx_iast E zg_50 Nat.zero_lt_one dd_Ref_fillList_60 ?_
  refine zx_letH (fun h6 => ?_)
  refine zx_aload_n E 4 dd_Ref_fillList_61 rfl rfl ?_
  refine zx_getR E 41 0 zd_Ref_count zg_24 Nat.zero_lt_one (zr_Ref_count _) zw_1132 dd_Ref_fillList_62 ?_
  refine zx_iload_n E 1 dd_Ref_fillList_65 rfl rfl ?_
  refine zx_dup2 E dd_Ref_fillList_66 rfl rfl ?_
  refine zx_iald E zg_41 Nat.zero_lt_one dd_Ref_fillList_67 ?_
  refine zx_iconst E (1 : Int32) dd_Ref_fillList_68 (by decide) ?_
  refine zx_iadd E dd_Ref_fillList_69 ?_
  refine zx_iast E zg_41 Nat.zero_lt_one dd_Ref_fillList_70 ?_
  refine zx_letH (fun h7 => ?_)
  refine zx_aload_n E 4 dd_Ref_fillList_71 rfl rfl ?_
  refine zx_getR E 42 0 zd_Ref_values zg_24 Nat.zero_lt_one (zr_Ref_values _) zw_1133 dd_Ref_fillList_72 ?_
  refine zx_bipush E (16 : Int32) dd_Ref_fillList_75 (by decide) ?_
  refine zx_iload_n E 1 dd_Ref_fillList_77 rfl rfl ?_
  refine zx_imul E dd_Ref_fillList_78 ?_
  refine zx_iload E 0 dd_Ref_fillList_79 rfl ?_
  refine zx_iadd E dd_Ref_fillList_81 ?_
  refine zx_aload_n E 4 dd_Ref_fillList_82 rfl rfl ?_
  refine zx_aload_n E 4 dd_Ref_fillList_83 rfl rfl ?_
  refine zx_getR E 29 0 zd_Ref_of zg_24 Nat.zero_lt_one (zr_Ref_of _) zw_1114 dd_Ref_fillList_84 ?_
  refine zx_aload_n E 4 dd_Ref_fillList_87 rfl rfl ?_
  refine zx_getR E 40 0 zd_Ref_type zg_24 Nat.zero_lt_one (zr_Ref_type _) zw_1131 dd_Ref_fillList_88 ?_
  refine zx_iload_n E 2 dd_Ref_fillList_91 rfl rfl ?_
  refine zx_iald E zg_40 Nat.zero_lt_one dd_Ref_fillList_92 ?_
  refine zx_iald E zg_29 Nat.zero_lt_one dd_Ref_fillList_93 ?_
  refine zx_aload_n E 4 dd_Ref_fillList_94 rfl rfl ?_
  refine zx_getR E 29 0 zd_Ref_of zg_24 Nat.zero_lt_one (zr_Ref_of _) zw_1114 dd_Ref_fillList_95 ?_
  refine zx_aload_n E 4 dd_Ref_fillList_98 rfl rfl ?_
  refine zx_getR E 40 0 zd_Ref_type zg_24 Nat.zero_lt_one (zr_Ref_type _) zw_1131 dd_Ref_fillList_99 ?_
  refine zx_iload_n E 1 dd_Ref_fillList_102 rfl rfl ?_
  refine zx_iald E zg_40 Nat.zero_lt_one dd_Ref_fillList_103 ?_
  refine zx_iald E zg_29 Nat.zero_lt_one dd_Ref_fillList_104 ?_
  refine zx_aload_n E 4 dd_Ref_fillList_105 rfl rfl ?_
  refine zx_getR E 42 0 zd_Ref_values zg_24 Nat.zero_lt_one (zr_Ref_values _) zw_1133 dd_Ref_fillList_106 ?_
  refine zx_bipush E (16 : Int32) dd_Ref_fillList_109 (by decide) ?_
  refine zx_iload_n E 2 dd_Ref_fillList_111 rfl rfl ?_
  refine zx_imul E dd_Ref_fillList_112 ?_
  refine zx_iload E 0 dd_Ref_fillList_113 rfl ?_
  refine zx_iadd E dd_Ref_fillList_115 ?_
  refine zx_lald E zg_42 Nat.zero_lt_one dd_Ref_fillList_116 ?_
  refine zx_callV_lw (T := zx_TRef) E [.int (h7.1 29 0 (h7.1 40 0 y2.toNatClampNeg).toNatClampNeg), .int (h7.1 29 0 (h7.1 40 0 y3.toNatClampNeg).toNatClampNeg), .long (h7.2 42 0 (((16 : Int32) * y2) + y4).toNatClampNeg)] (fun rZ eZ => zt_Ref_become _ _ (h7.1 29 0 (h7.1 40 0 y2.toNatClampNeg).toNatClampNeg) (h7.1 29 0 (h7.1 40 0 y3.toNatClampNeg).toNatClampNeg) (h7.2 42 0 (((16 : Int32) * y2) + y4).toNatClampNeg) h7 _ eZ) zg_24 Nat.zero_lt_one rfl zc_Ref_343 ⟨by decide, by decide⟩ (Nat.zero_le _) (Nat.zero_le _) rfl rfl (Nat.le_of_ble_eq_true rfl) dd_Ref_fillList_117 (fun r8 => ?_)
  refine zx_last E zg_42 Nat.zero_lt_one dd_Ref_fillList_120 ?_
  refine zx_letH (fun h9 => ?_)
  exact zx_vret E rfl rfl dd_Ref_fillList_121
