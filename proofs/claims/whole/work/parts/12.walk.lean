/-! walks (printed by gen.py) -/
set_option maxHeartbeats 4000000 in
set_option maxRecDepth 20000 in
theorem zj_Ref_converts_41 {B : zx_B} (E : zx_E B zm_Ref_converts) (h : zx_H)   : zx_X B zm_Ref_converts (zx_QM B (fun r => ((some (Value.int (zx_b r)) : Option Value), h))) (zs_Ref_converts_J41 h  ) 0 0 41 [] [] h := by
  unfold zs_Ref_converts_J41
  refine zx_iconst E (1 : Int32) dd_Ref_converts_41 (by decide) ?_
  refine zx_goto E 46 dd_Ref_converts_42 rfl ?_
  exact zx_zret E true rfl rfl rfl dd_Ref_converts_46
set_option maxHeartbeats 4000000 in
set_option maxRecDepth 20000 in
theorem zj_Ref_converts_45 {B : zx_B} (E : zx_E B zm_Ref_converts) (h : zx_H)   : zx_X B zm_Ref_converts (zx_QM B (fun r => ((some (Value.int (zx_b r)) : Option Value), h))) (zs_Ref_converts_J45 h  ) 0 0 45 [] [] h := by
  unfold zs_Ref_converts_J45
  refine zx_iconst E (0 : Int32) dd_Ref_converts_45 (by decide) ?_
  exact zx_zret E false rfl rfl rfl dd_Ref_converts_46
set_option maxHeartbeats 4000000 in
set_option maxRecDepth 20000 in
theorem zj_Ref_converts_84 {B : zx_B} (E : zx_E B zm_Ref_converts) (h : zx_H)  (s0 : Int32) : zx_X B zm_Ref_converts (zx_QM B (fun r => ((some (Value.int (zx_b r)) : Option Value), h))) (zs_Ref_converts_J84 h  s0) 0 0 84 [] [.int s0] h := by
  unfold zs_Ref_converts_J84
  refine zx_callS_i E [.int s0] (fun rZ eZ => zt_Ref_kindOf _ _ s0 h _ eZ) zc_Ref_142 ⟨by decide, by decide⟩ (Nat.zero_le _) (Nat.zero_le _) rfl rfl (Nat.le_of_ble_eq_true rfl) dd_Ref_converts_84 (fun r1 => ?_)
  refine zx_bipush E (6 : Int32) dd_Ref_converts_87 (by decide) ?_
  refine zx_icmp_eq E 96 dd_Ref_converts_89 rfl ?_ ?_
  rotate_left
  · refine zx_iconst E (0 : Int32) dd_Ref_converts_96 (by decide) ?_
    exact zx_zret E false rfl rfl rfl dd_Ref_converts_97
  refine zx_iconst E (1 : Int32) dd_Ref_converts_92 (by decide) ?_
  refine zx_goto E 97 dd_Ref_converts_93 rfl ?_
  exact zx_zret E true rfl rfl rfl dd_Ref_converts_97
set_option maxHeartbeats 4000000 in
set_option maxRecDepth 20000 in
theorem zj_Ref_converts_73 {B : zx_B} (E : zx_E B zm_Ref_converts) (h : zx_H)  (x1 : Int32) (x2 : Int32) : zx_X B zm_Ref_converts (zx_QM B (fun r => ((some (Value.int (zx_b r)) : Option Value), h))) (zs_Ref_converts_J73 h  x1 x2) 0 0 73 [(1, .int x1), (2, .int x2)] [] h := by
  unfold zs_Ref_converts_J73
  refine zx_iload_n E 0 dd_Ref_converts_73 rfl rfl ?_
  refine zx_bipush E (14 : Int32) dd_Ref_converts_74 (by decide) ?_
  refine zx_icmp_ne E 83 dd_Ref_converts_76 rfl ?_ ?_
  rotate_left
  · refine zx_iload_n E 0 dd_Ref_converts_83 rfl rfl ?_
    refine zx_sub [] rfl ?_
    exact zj_Ref_converts_84 E h x1
  refine zx_iload_n E 1 dd_Ref_converts_79 rfl rfl ?_
  refine zx_goto E 84 dd_Ref_converts_80 rfl ?_
  refine zx_sub [] rfl ?_
  exact zj_Ref_converts_84 E h x2
set_option maxHeartbeats 4000000 in
set_option maxRecDepth 20000 in
theorem zj_Ref_converts_128 {B : zx_B} (E : zx_E B zm_Ref_converts) (h : zx_H)   : zx_X B zm_Ref_converts (zx_QM B (fun r => ((some (Value.int (zx_b r)) : Option Value), h))) (zs_Ref_converts_J128 h  ) 0 0 128 [] [] h := by
  unfold zs_Ref_converts_J128
  refine zx_iconst E (1 : Int32) dd_Ref_converts_128 (by decide) ?_
  refine zx_goto E 133 dd_Ref_converts_129 rfl ?_
  exact zx_zret E true rfl rfl rfl dd_Ref_converts_133
set_option maxHeartbeats 4000000 in
set_option maxRecDepth 20000 in
theorem zj_Ref_converts_132 {B : zx_B} (E : zx_E B zm_Ref_converts) (h : zx_H)   : zx_X B zm_Ref_converts (zx_QM B (fun r => ((some (Value.int (zx_b r)) : Option Value), h))) (zs_Ref_converts_J132 h  ) 0 0 132 [] [] h := by
  unfold zs_Ref_converts_J132
  refine zx_iconst E (0 : Int32) dd_Ref_converts_132 (by decide) ?_
  exact zx_zret E false rfl rfl rfl dd_Ref_converts_133
set_option maxHeartbeats 4000000 in
set_option maxRecDepth 20000 in
theorem zj_Ref_converts_113 {B : zx_B} (E : zx_E B zm_Ref_converts) (h : zx_H)  (x1 : Int32) (x2 : Int32) : zx_X B zm_Ref_converts (zx_QM B (fun r => ((some (Value.int (zx_b r)) : Option Value), h))) (zs_Ref_converts_J113 h  x1 x2) 0 0 113 [(0, zx_rV (zx_BK B) 24 0), (1, .int x1), (2, .int x2)] [] h := by
  unfold zs_Ref_converts_J113
  refine zx_iload_n E 2 dd_Ref_converts_113 rfl rfl ?_
  refine zx_bipush E (14 : Int32) dd_Ref_converts_114 (by decide) ?_
  refine zx_icmp_ne E 132 dd_Ref_converts_116 rfl ?_ ?_
  rotate_left
  · refine zx_sub [] rfl ?_
    exact zj_Ref_converts_132 E h
  refine zx_aload_n E 0 dd_Ref_converts_119 rfl rfl ?_
  refine zx_iload_n E 1 dd_Ref_converts_120 rfl rfl ?_
  refine zx_iconst E (3 : Int32) dd_Ref_converts_121 (by decide) ?_
  refine zx_callV_z (T := zx_TRef) E [.int x1, .int (3 : Int32)] (fun rZ eZ => zt_Ref_isSort _ _ x1 (3 : Int32) h _ eZ) zg_24 Nat.zero_lt_one rfl zc_Ref_125 ⟨by decide, by decide⟩ (Nat.zero_le _) (Nat.zero_le _) rfl rfl (Nat.le_of_ble_eq_true rfl) dd_Ref_converts_122 (fun r1 => ?_)
  refine zx_ifb_eq E (x := r1) 132 dd_Ref_converts_125 rfl ?_ ?_
  · refine zx_sub [] rfl ?_
    exact zj_Ref_converts_128 E h
  refine zx_sub [] rfl ?_
  exact zj_Ref_converts_132 E h
set_option maxHeartbeats 4000000 in
set_option maxRecDepth 20000 in
theorem zj_Ref_converts_98 {B : zx_B} (E : zx_E B zm_Ref_converts) (h : zx_H)  (x1 : Int32) (x2 : Int32) : zx_X B zm_Ref_converts (zx_QM B (fun r => ((some (Value.int (zx_b r)) : Option Value), h))) (zs_Ref_converts_J98 h  x1 x2) 0 0 98 [(0, zx_rV (zx_BK B) 24 0), (1, .int x1), (2, .int x2)] [] h := by
  unfold zs_Ref_converts_J98
  refine zx_iload_n E 1 dd_Ref_converts_98 rfl rfl ?_
  refine zx_bipush E (14 : Int32) dd_Ref_converts_99 (by decide) ?_
  refine zx_icmp_ne E 113 dd_Ref_converts_101 rfl ?_ ?_
  rotate_left
  · exact zj_Ref_converts_113 E h x1 x2
  refine zx_aload_n E 0 dd_Ref_converts_104 rfl rfl ?_
  refine zx_iload_n E 2 dd_Ref_converts_105 rfl rfl ?_
  refine zx_iconst E (3 : Int32) dd_Ref_converts_106 (by decide) ?_
  refine zx_callV_z (T := zx_TRef) E [.int x2, .int (3 : Int32)] (fun rZ eZ => zt_Ref_isSort _ _ x2 (3 : Int32) h _ eZ) zg_24 Nat.zero_lt_one rfl zc_Ref_125 ⟨by decide, by decide⟩ (Nat.zero_le _) (Nat.zero_le _) rfl rfl (Nat.le_of_ble_eq_true rfl) dd_Ref_converts_107 (fun r1 => ?_)
  refine zx_ifb_ne E (x := r1) 128 dd_Ref_converts_110 rfl ?_ ?_
  · exact zj_Ref_converts_113 E h x1 x2
  refine zx_sub [] rfl ?_
  exact zj_Ref_converts_128 E h
set_option maxHeartbeats 4000000 in
set_option maxRecDepth 20000 in
theorem zj_Ref_converts_60 {B : zx_B} (E : zx_E B zm_Ref_converts) (h : zx_H)  (x1 : Int32) (x2 : Int32) : zx_X B zm_Ref_converts (zx_QM B (fun r => ((some (Value.int (zx_b r)) : Option Value), h))) (zs_Ref_converts_J60 h  x1 x2) 0 0 60 [(0, zx_rV (zx_BK B) 24 0), (1, .int x1), (2, .int x2)] [] h := by
  unfold zs_Ref_converts_J60
  refine zx_iload_n E 1 dd_Ref_converts_60 rfl rfl ?_
  refine zx_bipush E (14 : Int32) dd_Ref_converts_61 (by decide) ?_
  refine zx_icmp_ne E 98 dd_Ref_converts_63 rfl ?_ ?_
  rotate_left
  · exact zj_Ref_converts_98 E h x1 x2
  refine zx_iload_n E 2 dd_Ref_converts_66 rfl rfl ?_
  refine zx_callS_z E [.int x2] (fun rZ eZ => zt_Ref_isAmount _ _ x2 h _ eZ) zc_Ref_139 ⟨by decide, by decide⟩ (Nat.zero_le _) (Nat.zero_le _) rfl rfl (Nat.le_of_ble_eq_true rfl) dd_Ref_converts_67 (fun r1 => ?_)
  refine zx_ifb_eq E (x := r1) 98 dd_Ref_converts_70 rfl ?_ ?_
  rotate_left
  · exact zj_Ref_converts_98 E h x1 x2
  refine zx_sub [1, 2] rfl ?_
  exact zj_Ref_converts_73 E h x1 x2
set_option maxHeartbeats 4000000 in
set_option maxRecDepth 20000 in
theorem zj_Ref_converts_47 {B : zx_B} (E : zx_E B zm_Ref_converts) (h : zx_H)  (x1 : Int32) (x2 : Int32) : zx_X B zm_Ref_converts (zx_QM B (fun r => ((some (Value.int (zx_b r)) : Option Value), h))) (zs_Ref_converts_J47 h  x1 x2) 0 0 47 [(0, zx_rV (zx_BK B) 24 0), (1, .int x1), (2, .int x2)] [] h := by
  unfold zs_Ref_converts_J47
  refine zx_iload_n E 1 dd_Ref_converts_47 rfl rfl ?_
  refine zx_callS_z E [.int x1] (fun rZ eZ => zt_Ref_isAmount _ _ x1 h _ eZ) zc_Ref_139 ⟨by decide, by decide⟩ (Nat.zero_le _) (Nat.zero_le _) rfl rfl (Nat.le_of_ble_eq_true rfl) dd_Ref_converts_48 (fun r1 => ?_)
  refine zx_ifb_eq E (x := r1) 60 dd_Ref_converts_51 rfl ?_ ?_
  rotate_left
  · exact zj_Ref_converts_60 E h x1 x2
  refine zx_iload_n E 2 dd_Ref_converts_54 rfl rfl ?_
  refine zx_bipush E (14 : Int32) dd_Ref_converts_55 (by decide) ?_
  refine zx_icmp_eq E 73 dd_Ref_converts_57 rfl ?_ ?_
  · exact zj_Ref_converts_60 E h x1 x2
  refine zx_sub [1, 2] rfl ?_
  exact zj_Ref_converts_73 E h x1 x2
set_option maxHeartbeats 4000000 in
set_option maxRecDepth 20000 in
theorem zt_Ref_converts (l : Launch) (K : zx_K) (a1 : Int32) (a2 : Int32) (h : zx_H) (r : Bool) (hf : zs_Ref_converts a1 a2 h = some r) : zx_MR l zm_Ref_converts zy_Ref_converts K [zx_rV K 24 0, .int a1, .int a2] h (some (.int (zx_b r))) h := by
  refine zx_ofM (M := zm_Ref_converts) (y := zy_Ref_converts) (r := r) (as := [zx_rV K 24 0, .int a1, .int a2]) (ρ := (fun r => ((some (Value.int (zx_b r)) : Option Value), h))) (by decide) rfl hf (Nat.le_of_ble_eq_true rfl) ?_
  intro B hl hK E
  subst hK
  subst hl
  show zx_X B zm_Ref_converts _ _ 0 0 0 [(0, zx_rV (zx_BK B) 24 0), (1, .int a1), (2, .int a2)] [] h
  unfold zs_Ref_converts
  refine zx_iload_n E 1 dd_Ref_converts_0 rfl rfl ?_
  refine zx_callS_z E [.int a1] (fun rZ eZ => zt_Ref_isAmount _ _ a1 h _ eZ) zc_Ref_139 ⟨by decide, by decide⟩ (Nat.zero_le _) (Nat.zero_le _) rfl rfl (Nat.le_of_ble_eq_true rfl) dd_Ref_converts_1 (fun r1 => ?_)
  refine zx_ifb_eq E (x := r1) 47 dd_Ref_converts_4 rfl ?_ ?_
  rotate_left
  · exact zj_Ref_converts_47 E h a1 a2
  refine zx_iload_n E 2 dd_Ref_converts_7 rfl rfl ?_
  refine zx_callS_z E [.int a2] (fun rZ eZ => zt_Ref_isAmount _ _ a2 h _ eZ) zc_Ref_139 ⟨by decide, by decide⟩ (Nat.zero_le _) (Nat.zero_le _) rfl rfl (Nat.le_of_ble_eq_true rfl) dd_Ref_converts_8 (fun r2 => ?_)
  refine zx_ifb_eq E (x := r2) 47 dd_Ref_converts_11 rfl ?_ ?_
  rotate_left
  · exact zj_Ref_converts_47 E h a1 a2
  refine zx_iload_n E 1 dd_Ref_converts_14 rfl rfl ?_
  refine zx_callS_i E [.int a1] (fun rZ eZ => zt_Ref_kindOf _ _ a1 h _ eZ) zc_Ref_142 ⟨by decide, by decide⟩ (Nat.zero_le _) (Nat.zero_le _) rfl rfl (Nat.le_of_ble_eq_true rfl) dd_Ref_converts_15 (fun r3 => ?_)
  refine zx_iload_n E 2 dd_Ref_converts_18 rfl rfl ?_
  refine zx_callS_i E [.int a2] (fun rZ eZ => zt_Ref_kindOf _ _ a2 h _ eZ) zc_Ref_142 ⟨by decide, by decide⟩ (Nat.zero_le _) (Nat.zero_le _) rfl rfl (Nat.le_of_ble_eq_true rfl) dd_Ref_converts_19 (fun r4 => ?_)
  refine zx_icmp_eq E 41 dd_Ref_converts_22 rfl ?_ ?_
  rotate_left
  · refine zx_sub [] rfl ?_
    exact zj_Ref_converts_41 E h
  refine zx_iload_n E 1 dd_Ref_converts_25 rfl rfl ?_
  refine zx_callS_i E [.int a1] (fun rZ eZ => zt_Ref_kindOf _ _ a1 h _ eZ) zc_Ref_142 ⟨by decide, by decide⟩ (Nat.zero_le _) (Nat.zero_le _) rfl rfl (Nat.le_of_ble_eq_true rfl) dd_Ref_converts_26 (fun r5 => ?_)
  refine zx_iconst E (5 : Int32) dd_Ref_converts_29 (by decide) ?_
  refine zx_icmp_eq E 45 dd_Ref_converts_30 rfl ?_ ?_
  rotate_left
  · refine zx_sub [] rfl ?_
    exact zj_Ref_converts_45 E h
  refine zx_iload_n E 2 dd_Ref_converts_33 rfl rfl ?_
  refine zx_callS_i E [.int a2] (fun rZ eZ => zt_Ref_kindOf _ _ a2 h _ eZ) zc_Ref_142 ⟨by decide, by decide⟩ (Nat.zero_le _) (Nat.zero_le _) rfl rfl (Nat.le_of_ble_eq_true rfl) dd_Ref_converts_34 (fun r6 => ?_)
  refine zx_iconst E (5 : Int32) dd_Ref_converts_37 (by decide) ?_
  refine zx_icmp_eq E 45 dd_Ref_converts_38 rfl ?_ ?_
  · refine zx_sub [] rfl ?_
    exact zj_Ref_converts_41 E h
  refine zx_sub [] rfl ?_
  exact zj_Ref_converts_45 E h
set_option maxHeartbeats 4000000 in
set_option maxRecDepth 20000 in
theorem zj_Ref_functionOf_111 {B : zx_B} (E : zx_E B zm_Ref_functionOf) (h : zx_H) (k6 : (Int32 → Int32 → Bool → Int32 → Int32 → Option Int32)) (hk6 : ∀ (x1 : Int32) (x2 : Int32) (x3 : Bool) (x4 : Int32) (x5 : Int32), zx_X B zm_Ref_functionOf (zx_QM B (fun r => ((some (Value.int r) : Option Value), h))) (k6 x1 x2 x3 x4 x5) 0 0 6 [(0, zx_rV (zx_BK B) 24 0), (1, .int x1), (2, .int x2), (3, .int (zx_b x3)), (4, .int x4), (5, .int x5)] [] h) (x1 : Int32) (x2 : Int32) (x3 : Bool) (x5 : Int32) (s0 : Int32) : zx_X B zm_Ref_functionOf (zx_QM B (fun r => ((some (Value.int r) : Option Value), h))) (zs_Ref_functionOf_J111 h k6 x1 x2 x3 x5 s0) 0 0 111 [(0, zx_rV (zx_BK B) 24 0), (1, .int x1), (2, .int x2), (3, .int (zx_b x3)), (5, .int x5)] [.int s0] h := by
  unfold zs_Ref_functionOf_J111
  refine zx_istore E (lv1 := [(4, .int s0), (0, zx_rV (zx_BK B) 24 0), (1, .int x1), (2, .int x2), (3, .int (zx_b x3)), (5, .int x5)]) dd_Ref_functionOf_111 (by decide) rfl ?_
  refine zx_iinc E 5 (x5 + (1 : Int32)) (lv1 := [(5, .int (x5 + (1 : Int32))), (4, .int s0), (0, zx_rV (zx_BK B) 24 0), (1, .int x1), (2, .int x2), (3, .int (zx_b x3))]) dd_Ref_functionOf_113 rfl rfl (by decide) rfl ?_
  refine zx_goto E 6 dd_Ref_functionOf_116 rfl ?_
  refine zx_sub [2, 3, 4, 5, 1, 0] rfl ?_
  exact hk6 x1 x2 x3 s0 (x5 + (1 : Int32))
set_option maxHeartbeats 4000000 in
set_option maxRecDepth 20000 in
theorem zj_Ref_functionOf_103 {B : zx_B} (E : zx_E B zm_Ref_functionOf) (h : zx_H) (k6 : (Int32 → Int32 → Bool → Int32 → Int32 → Option Int32)) (hk6 : ∀ (x1 : Int32) (x2 : Int32) (x3 : Bool) (x4 : Int32) (x5 : Int32), zx_X B zm_Ref_functionOf (zx_QM B (fun r => ((some (Value.int r) : Option Value), h))) (k6 x1 x2 x3 x4 x5) 0 0 6 [(0, zx_rV (zx_BK B) 24 0), (1, .int x1), (2, .int x2), (3, .int (zx_b x3)), (4, .int x4), (5, .int x5)] [] h) (x1 : Int32) (x2 : Int32) (x3 : Bool) (x5 : Int32) (s0 : Int32) : zx_X B zm_Ref_functionOf (zx_QM B (fun r => ((some (Value.int r) : Option Value), h))) (zs_Ref_functionOf_J103 h k6 x1 x2 x3 x5 s0) 0 0 103 [(0, zx_rV (zx_BK B) 24 0), (1, .int x1), (2, .int x2), (3, .int (zx_b x3)), (5, .int x5)] [.int s0] h := by
  unfold zs_Ref_functionOf_J103
  refine zx_iload E 4 dd_Ref_functionOf_103 rfl ?_
  refine zx_iadd E dd_Ref_functionOf_105 ?_
  refine zx_goto E 111 dd_Ref_functionOf_106 rfl ?_
  exact zj_Ref_functionOf_111 E h k6 hk6 x1 x2 x3 x5 (s0 + x5)
set_option maxHeartbeats 4000000 in
set_option maxRecDepth 20000 in
theorem zj_Ref_functionOf_73 {B : zx_B} (E : zx_E B zm_Ref_functionOf) (h : zx_H) (k6 : (Int32 → Int32 → Bool → Int32 → Int32 → Option Int32)) (hk6 : ∀ (x1 : Int32) (x2 : Int32) (x3 : Bool) (x4 : Int32) (x5 : Int32), zx_X B zm_Ref_functionOf (zx_QM B (fun r => ((some (Value.int r) : Option Value), h))) (k6 x1 x2 x3 x4 x5) 0 0 6 [(0, zx_rV (zx_BK B) 24 0), (1, .int x1), (2, .int x2), (3, .int (zx_b x3)), (4, .int x4), (5, .int x5)] [] h) (x1 : Int32) (x2 : Int32) (x3 : Bool) (x4 : Int32) (x5 : Int32) (s0 : Bool) : zx_X B zm_Ref_functionOf (zx_QM B (fun r => ((some (Value.int r) : Option Value), h))) (zs_Ref_functionOf_J73 h k6 x1 x2 x3 x4 x5 s0) 0 0 73 [(0, zx_rV (zx_BK B) 24 0), (1, .int x1), (2, .int x2), (3, .int (zx_b x3)), (4, .int x4), (5, .int x5)] [.int (zx_b s0)] h := by
  unfold zs_Ref_functionOf_J73
  refine zx_istore E (lv1 := [(6, .int (zx_b s0)), (0, zx_rV (zx_BK B) 24 0), (1, .int x1), (2, .int x2), (3, .int (zx_b x3)), (4, .int x4), (5, .int x5)]) dd_Ref_functionOf_73 (by decide) rfl ?_
  refine zx_iload E 0 dd_Ref_functionOf_75 rfl ?_
  refine zx_ifb_ne E (x := s0) 85 dd_Ref_functionOf_77 rfl ?_ ?_
  · refine zx_iload E 5 dd_Ref_functionOf_80 rfl ?_
    refine zx_goto E 111 dd_Ref_functionOf_82 rfl ?_
    refine zx_sub [1, 2, 3, 4, 6] rfl ?_
    exact zj_Ref_functionOf_111 E h k6 hk6 x1 x2 x3 x5 x4
  refine zx_iload E 5 dd_Ref_functionOf_85 rfl ?_
  refine zx_iconst E (-1 : Int32) dd_Ref_functionOf_87 (by decide) ?_
  refine zx_icmp_ne E 109 dd_Ref_functionOf_88 rfl ?_ ?_
  rotate_left
  · refine zx_bipush E (-2 : Int32) dd_Ref_functionOf_109 (by decide) ?_
    refine zx_sub [1, 2, 3, 4, 6] rfl ?_
    exact zj_Ref_functionOf_111 E h k6 hk6 x1 x2 x3 x5 (-2 : Int32)
  refine zx_iload_n E 4 dd_Ref_functionOf_91 rfl rfl ?_
  refine zx_ifb_eq E (x := x3) 101 dd_Ref_functionOf_92 rfl ?_ ?_
  rotate_left
  · refine zx_bipush E (100 : Int32) dd_Ref_functionOf_101 (by decide) ?_
    refine zx_sub [1, 2, 3, 4, 6] rfl ?_
    exact zj_Ref_functionOf_103 E h k6 hk6 x1 x2 x3 x5 (100 : Int32)
  refine zx_sipush E (300 : Int32) dd_Ref_functionOf_95 (by decide) ?_
  refine zx_goto E 103 dd_Ref_functionOf_98 rfl ?_
  refine zx_sub [1, 2, 3, 4, 6] rfl ?_
  exact zj_Ref_functionOf_103 E h k6 hk6 x1 x2 x3 x5 (300 : Int32)
set_option maxHeartbeats 4000000 in
set_option maxRecDepth 20000 in
theorem zj_Ref_functionOf_68 {B : zx_B} (E : zx_E B zm_Ref_functionOf) (h : zx_H) (k6 : (Int32 → Int32 → Bool → Int32 → Int32 → Option Int32)) (hk6 : ∀ (x1 : Int32) (x2 : Int32) (x3 : Bool) (x4 : Int32) (x5 : Int32), zx_X B zm_Ref_functionOf (zx_QM B (fun r => ((some (Value.int r) : Option Value), h))) (k6 x1 x2 x3 x4 x5) 0 0 6 [(0, zx_rV (zx_BK B) 24 0), (1, .int x1), (2, .int x2), (3, .int (zx_b x3)), (4, .int x4), (5, .int x5)] [] h) (x1 : Int32) (x2 : Int32) (x3 : Bool) (x4 : Int32) (x5 : Int32) : zx_X B zm_Ref_functionOf (zx_QM B (fun r => ((some (Value.int r) : Option Value), h))) (zs_Ref_functionOf_J68 h k6 x1 x2 x3 x4 x5) 0 0 68 [(0, zx_rV (zx_BK B) 24 0), (1, .int x1), (2, .int x2), (3, .int (zx_b x3)), (4, .int x4), (5, .int x5)] [] h := by
  unfold zs_Ref_functionOf_J68
  refine zx_iconst E (1 : Int32) dd_Ref_functionOf_68 (by decide) ?_
  refine zx_goto E 73 dd_Ref_functionOf_69 rfl ?_
  exact zj_Ref_functionOf_73 E h k6 hk6 x1 x2 x3 x4 x5 true
set_option maxHeartbeats 4000000 in
set_option maxRecDepth 20000 in
theorem zj_Ref_functionOf_72 {B : zx_B} (E : zx_E B zm_Ref_functionOf) (h : zx_H) (k6 : (Int32 → Int32 → Bool → Int32 → Int32 → Option Int32)) (hk6 : ∀ (x1 : Int32) (x2 : Int32) (x3 : Bool) (x4 : Int32) (x5 : Int32), zx_X B zm_Ref_functionOf (zx_QM B (fun r => ((some (Value.int r) : Option Value), h))) (k6 x1 x2 x3 x4 x5) 0 0 6 [(0, zx_rV (zx_BK B) 24 0), (1, .int x1), (2, .int x2), (3, .int (zx_b x3)), (4, .int x4), (5, .int x5)] [] h) (x1 : Int32) (x2 : Int32) (x3 : Bool) (x4 : Int32) (x5 : Int32) : zx_X B zm_Ref_functionOf (zx_QM B (fun r => ((some (Value.int r) : Option Value), h))) (zs_Ref_functionOf_J72 h k6 x1 x2 x3 x4 x5) 0 0 72 [(0, zx_rV (zx_BK B) 24 0), (1, .int x1), (2, .int x2), (3, .int (zx_b x3)), (4, .int x4), (5, .int x5)] [] h := by
  unfold zs_Ref_functionOf_J72
  refine zx_iconst E (0 : Int32) dd_Ref_functionOf_72 (by decide) ?_
  exact zj_Ref_functionOf_73 E h k6 hk6 x1 x2 x3 x4 x5 false
set_option maxHeartbeats 4000000 in
set_option maxRecDepth 20000 in
theorem zb_Ref_functionOf_6 {B : zx_B} (E : zx_E B zm_Ref_functionOf) (h : zx_H)  (k6 : (Int32 → Int32 → Bool → Int32 → Int32 → Option Int32)) (hk6 : ∀ (x1 : Int32) (x2 : Int32) (x3 : Bool) (x4 : Int32) (x5 : Int32), zx_X B zm_Ref_functionOf (zx_QM B (fun r => ((some (Value.int r) : Option Value), h))) (k6 x1 x2 x3 x4 x5) 0 0 6 [(0, zx_rV (zx_BK B) 24 0), (1, .int x1), (2, .int x2), (3, .int (zx_b x3)), (4, .int x4), (5, .int x5)] [] h) (x1 : Int32) (x2 : Int32) (x3 : Bool) (x4 : Int32) (x5 : Int32) : zx_X B zm_Ref_functionOf (zx_QM B (fun r => ((some (Value.int r) : Option Value), h))) (zs_Ref_functionOf_L6_body h  k6 x1 x2 x3 x4 x5) 0 0 6 [(0, zx_rV (zx_BK B) 24 0), (1, .int x1), (2, .int x2), (3, .int (zx_b x3)), (4, .int x4), (5, .int x5)] [] h := by
  unfold zs_Ref_functionOf_L6_body
  refine zx_iload E 5 dd_Ref_functionOf_6 rfl ?_
  refine zx_aload_n E 0 dd_Ref_functionOf_8 rfl rfl ?_
  refine zx_getI E zd_Ref_functions zg_24 Nat.zero_lt_one zw_1122 dd_Ref_functionOf_9 ?_
  refine zx_icmp_ge E 119 dd_Ref_functionOf_12 rfl ?_ ?_
  rotate_left
  · refine zx_iload E 4 dd_Ref_functionOf_119 rfl ?_
    exact zx_iret E rfl rfl dd_Ref_functionOf_121
  refine zx_aload_n E 0 dd_Ref_functionOf_15 rfl rfl ?_
  refine zx_getR E 37 0 zd_Ref_functionTo zg_24 Nat.zero_lt_one (zr_Ref_functionTo _) zw_1124 dd_Ref_functionOf_16 ?_
  refine zx_iload E 5 dd_Ref_functionOf_19 rfl ?_
  refine zx_iald E zg_37 Nat.zero_lt_one dd_Ref_functionOf_21 ?_
  refine zx_iload_n E 2 dd_Ref_functionOf_22 rfl rfl ?_
  refine zx_icmp_ne E 72 dd_Ref_functionOf_23 rfl ?_ ?_
  rotate_left
  · exact zj_Ref_functionOf_72 E h k6 hk6 x1 x2 x3 x4 x5
  refine zx_aload_n E 0 dd_Ref_functionOf_26 rfl rfl ?_
  refine zx_iload E 5 dd_Ref_functionOf_27 rfl ?_
  refine zx_callV_z (T := zx_TRef) E [.int x5] (fun rZ eZ => zt_Ref_isNamed _ _ x5 h _ eZ) zg_24 Nat.zero_lt_one rfl zc_Ref_180 ⟨by decide, by decide⟩ (Nat.zero_le _) (Nat.zero_le _) rfl rfl (Nat.le_of_ble_eq_true rfl) dd_Ref_functionOf_29 (fun r1 => ?_)
  refine zx_ifb_ne E (x := r1) 72 dd_Ref_functionOf_32 rfl ?_ ?_
  rotate_left
  · exact zj_Ref_functionOf_72 E h k6 hk6 x1 x2 x3 x4 x5
  refine zx_iload_n E 3 dd_Ref_functionOf_35 rfl rfl ?_
  refine zx_ifb_eq E (x := x3) 57 dd_Ref_functionOf_36 rfl ?_ ?_
  rotate_left
  · refine zx_aload_n E 0 dd_Ref_functionOf_57 rfl rfl ?_
    refine zx_getR E 36 0 zd_Ref_functionFrom zg_24 Nat.zero_lt_one (zr_Ref_functionFrom _) zw_1123 dd_Ref_functionOf_58 ?_
    refine zx_iload E 5 dd_Ref_functionOf_61 rfl ?_
    refine zx_iald E zg_36 Nat.zero_lt_one dd_Ref_functionOf_63 ?_
    refine zx_iload_n E 1 dd_Ref_functionOf_64 rfl rfl ?_
    refine zx_icmp_ne E 72 dd_Ref_functionOf_65 rfl ?_ ?_
    · exact zj_Ref_functionOf_68 E h k6 hk6 x1 x2 x3 x4 x5
    exact zj_Ref_functionOf_72 E h k6 hk6 x1 x2 x3 x4 x5
  refine zx_aload_n E 0 dd_Ref_functionOf_39 rfl rfl ?_
  refine zx_iload_n E 1 dd_Ref_functionOf_40 rfl rfl ?_
  refine zx_aload_n E 0 dd_Ref_functionOf_41 rfl rfl ?_
  refine zx_getR E 36 0 zd_Ref_functionFrom zg_24 Nat.zero_lt_one (zr_Ref_functionFrom _) zw_1123 dd_Ref_functionOf_42 ?_
  refine zx_iload E 5 dd_Ref_functionOf_45 rfl ?_
  refine zx_iald E zg_36 Nat.zero_lt_one dd_Ref_functionOf_47 ?_
  refine zx_callV_z (T := zx_TRef) E [.int x1, .int (h.1 36 0 x5.toNatClampNeg)] (fun rZ eZ => zt_Ref_converts _ _ x1 (h.1 36 0 x5.toNatClampNeg) h _ eZ) zg_24 Nat.zero_lt_one rfl zc_Ref_177 ⟨by decide, by decide⟩ (Nat.zero_le _) (Nat.zero_le _) rfl rfl (Nat.le_of_ble_eq_true rfl) dd_Ref_functionOf_48 (fun r2 => ?_)
  refine zx_ifb_eq E (x := r2) 72 dd_Ref_functionOf_51 rfl ?_ ?_
  rotate_left
  · exact zj_Ref_functionOf_72 E h k6 hk6 x1 x2 x3 x4 x5
  refine zx_goto E 68 dd_Ref_functionOf_54 rfl ?_
  exact zj_Ref_functionOf_68 E h k6 hk6 x1 x2 x3 x4 x5
theorem zj_Ref_functionOf_6 {B : zx_B} (E : zx_E B zm_Ref_functionOf) (h : zx_H)  : ∀ (x1 : Int32) (x2 : Int32) (x3 : Bool) (x4 : Int32) (x5 : Int32), zx_X B zm_Ref_functionOf (zx_QM B (fun r => ((some (Value.int r) : Option Value), h))) (zs_Ref_functionOf_L6 h  x1 x2 x3 x4 x5) 0 0 6 [(0, zx_rV (zx_BK B) 24 0), (1, .int x1), (2, .int x2), (3, .int (zx_b x3)), (4, .int x4), (5, .int x5)] [] h := by
  unfold zs_Ref_functionOf_L6
  generalize zx_fuel = n
  induction n with
  | zero => intros; exact zx_non
  | succ n ih => intro x1 x2 x3 x4 x5; exact zb_Ref_functionOf_6 E h  _ ih x1 x2 x3 x4 x5
set_option maxHeartbeats 4000000 in
set_option maxRecDepth 20000 in
theorem zt_Ref_functionOf (l : Launch) (K : zx_K) (a1 : Int32) (a2 : Int32) (a3 : Bool) (h : zx_H) (r : Int32) (hf : zs_Ref_functionOf a1 a2 a3 h = some r) : zx_MR l zm_Ref_functionOf zy_Ref_functionOf K [zx_rV K 24 0, .int a1, .int a2, .int (zx_b a3)] h (some (.int r)) h := by
  refine zx_ofM (M := zm_Ref_functionOf) (y := zy_Ref_functionOf) (r := r) (as := [zx_rV K 24 0, .int a1, .int a2, .int (zx_b a3)]) (ρ := (fun r => ((some (Value.int r) : Option Value), h))) (by decide) rfl hf (Nat.le_of_ble_eq_true rfl) ?_
  intro B hl hK E
  subst hK
  subst hl
  show zx_X B zm_Ref_functionOf _ _ 0 0 0 [(0, zx_rV (zx_BK B) 24 0), (1, .int a1), (2, .int a2), (3, .int (zx_b a3))] [] h
  unfold zs_Ref_functionOf
  refine zx_iconst E (-1 : Int32) dd_Ref_functionOf_0 (by decide) ?_
  refine zx_istore E (lv1 := [(4, .int (-1 : Int32)), (0, zx_rV (zx_BK B) 24 0), (1, .int a1), (2, .int a2), (3, .int (zx_b a3))]) dd_Ref_functionOf_1 (by decide) rfl ?_
  refine zx_iconst E (0 : Int32) dd_Ref_functionOf_3 (by decide) ?_
  refine zx_istore E (lv1 := [(5, .int (0 : Int32)), (4, .int (-1 : Int32)), (0, zx_rV (zx_BK B) 24 0), (1, .int a1), (2, .int a2), (3, .int (zx_b a3))]) dd_Ref_functionOf_4 (by decide) rfl ?_
  refine zx_sub [2, 3, 4, 5, 1, 0] rfl ?_
  exact zj_Ref_functionOf_6 E h a1 a2 a3 (-1 : Int32) (0 : Int32)
set_option maxHeartbeats 4000000 in
set_option maxRecDepth 20000 in
theorem zj_Ref_one_93 {B : zx_B} (E : zx_E B zm_Ref_one) (h : zx_H) (k28 : (Int32 → Int32 → Int32 → Int32 → Option Int32)) (hk28 : ∀ (x1 : Int32) (x2 : Int32) (x4 : Int32) (x5 : Int32), zx_X B zm_Ref_one (zx_QM B (fun r => ((some (Value.int r) : Option Value), h))) (k28 x1 x2 x4 x5) 0 0 28 [(0, zx_rV (zx_BK B) 24 0), (1, .int x1), (2, .int x2), (4, .int x4), (5, .int x5)] [] h) (x1 : Int32) (x2 : Int32) (x5 : Int32) (s0 : Int32) : zx_X B zm_Ref_one (zx_QM B (fun r => ((some (Value.int r) : Option Value), h))) (zs_Ref_one_J93 h k28 x1 x2 x5 s0) 0 0 93 [(0, zx_rV (zx_BK B) 24 0), (1, .int x1), (2, .int x2), (5, .int x5)] [.int s0] h := by
  unfold zs_Ref_one_J93
  refine zx_istore E (lv1 := [(4, .int s0), (0, zx_rV (zx_BK B) 24 0), (1, .int x1), (2, .int x2), (5, .int x5)]) dd_Ref_one_93 (by decide) rfl ?_
  refine zx_iinc E 4 (x5 + (1 : Int32)) (lv1 := [(5, .int (x5 + (1 : Int32))), (4, .int s0), (0, zx_rV (zx_BK B) 24 0), (1, .int x1), (2, .int x2)]) dd_Ref_one_95 rfl rfl (by decide) rfl ?_
  refine zx_goto E 28 dd_Ref_one_98 rfl ?_
  refine zx_sub [2, 3, 4, 1, 0] rfl ?_
  exact hk28 x1 x2 s0 (x5 + (1 : Int32))
set_option maxHeartbeats 4000000 in
set_option maxRecDepth 20000 in
theorem zj_Ref_one_64 {B : zx_B} (E : zx_E B zm_Ref_one) (h : zx_H) (k28 : (Int32 → Int32 → Int32 → Int32 → Option Int32)) (hk28 : ∀ (x1 : Int32) (x2 : Int32) (x4 : Int32) (x5 : Int32), zx_X B zm_Ref_one (zx_QM B (fun r => ((some (Value.int r) : Option Value), h))) (k28 x1 x2 x4 x5) 0 0 28 [(0, zx_rV (zx_BK B) 24 0), (1, .int x1), (2, .int x2), (4, .int x4), (5, .int x5)] [] h) (x1 : Int32) (x2 : Int32) (x4 : Int32) (x5 : Int32) (s0 : Bool) : zx_X B zm_Ref_one (zx_QM B (fun r => ((some (Value.int r) : Option Value), h))) (zs_Ref_one_J64 h k28 x1 x2 x4 x5 s0) 0 0 64 [(0, zx_rV (zx_BK B) 24 0), (1, .int x1), (2, .int x2), (4, .int x4), (5, .int x5)] [.int (zx_b s0)] h := by
  unfold zs_Ref_one_J64
  refine zx_istore E (lv1 := [(6, .int (zx_b s0)), (0, zx_rV (zx_BK B) 24 0), (1, .int x1), (2, .int x2), (4, .int x4), (5, .int x5)]) dd_Ref_one_64 (by decide) rfl ?_
  refine zx_iload E 0 dd_Ref_one_66 rfl ?_
  refine zx_ifb_ne E (x := s0) 76 dd_Ref_one_68 rfl ?_ ?_
  · refine zx_iload E 4 dd_Ref_one_71 rfl ?_
    refine zx_goto E 93 dd_Ref_one_73 rfl ?_
    refine zx_sub [1, 2, 3, 5] rfl ?_
    exact zj_Ref_one_93 E h k28 hk28 x1 x2 x5 x4
  refine zx_iload E 4 dd_Ref_one_76 rfl ?_
  refine zx_iconst E (-1 : Int32) dd_Ref_one_78 (by decide) ?_
  refine zx_icmp_ne E 91 dd_Ref_one_79 rfl ?_ ?_
  rotate_left
  · refine zx_bipush E (-2 : Int32) dd_Ref_one_91 (by decide) ?_
    refine zx_sub [1, 2, 3, 5] rfl ?_
    exact zj_Ref_one_93 E h k28 hk28 x1 x2 x5 (-2 : Int32)
  refine zx_sipush E (200 : Int32) dd_Ref_one_82 (by decide) ?_
  refine zx_iload E 5 dd_Ref_one_85 rfl ?_
  refine zx_iadd E dd_Ref_one_87 ?_
  refine zx_goto E 93 dd_Ref_one_88 rfl ?_
  refine zx_sub [1, 2, 3, 5] rfl ?_
  exact zj_Ref_one_93 E h k28 hk28 x1 x2 x5 ((200 : Int32) + x5)
set_option maxHeartbeats 4000000 in
set_option maxRecDepth 20000 in
theorem zj_Ref_one_63 {B : zx_B} (E : zx_E B zm_Ref_one) (h : zx_H) (k28 : (Int32 → Int32 → Int32 → Int32 → Option Int32)) (hk28 : ∀ (x1 : Int32) (x2 : Int32) (x4 : Int32) (x5 : Int32), zx_X B zm_Ref_one (zx_QM B (fun r => ((some (Value.int r) : Option Value), h))) (k28 x1 x2 x4 x5) 0 0 28 [(0, zx_rV (zx_BK B) 24 0), (1, .int x1), (2, .int x2), (4, .int x4), (5, .int x5)] [] h) (x1 : Int32) (x2 : Int32) (x4 : Int32) (x5 : Int32) : zx_X B zm_Ref_one (zx_QM B (fun r => ((some (Value.int r) : Option Value), h))) (zs_Ref_one_J63 h k28 x1 x2 x4 x5) 0 0 63 [(0, zx_rV (zx_BK B) 24 0), (1, .int x1), (2, .int x2), (4, .int x4), (5, .int x5)] [] h := by
  unfold zs_Ref_one_J63
  refine zx_iconst E (0 : Int32) dd_Ref_one_63 (by decide) ?_
  exact zj_Ref_one_64 E h k28 hk28 x1 x2 x4 x5 false
set_option maxHeartbeats 4000000 in
set_option maxRecDepth 20000 in
theorem zj_Ref_one_162 {B : zx_B} (E : zx_E B zm_Ref_one) (h : zx_H)   : zx_X B zm_Ref_one (zx_QM B (fun r => ((some (Value.int r) : Option Value), h))) (zs_Ref_one_J162 h  ) 0 0 162 [] [] h := by
  unfold zs_Ref_one_J162
  refine zx_iconst E (-1 : Int32) dd_Ref_one_162 (by decide) ?_
  exact zx_iret E rfl rfl dd_Ref_one_163
set_option maxHeartbeats 4000000 in
set_option maxRecDepth 20000 in
theorem zb_Ref_one_28 {B : zx_B} (E : zx_E B zm_Ref_one) (h : zx_H)  (k28 : (Int32 → Int32 → Int32 → Int32 → Option Int32)) (hk28 : ∀ (x1 : Int32) (x2 : Int32) (x4 : Int32) (x5 : Int32), zx_X B zm_Ref_one (zx_QM B (fun r => ((some (Value.int r) : Option Value), h))) (k28 x1 x2 x4 x5) 0 0 28 [(0, zx_rV (zx_BK B) 24 0), (1, .int x1), (2, .int x2), (4, .int x4), (5, .int x5)] [] h) (x1 : Int32) (x2 : Int32) (x4 : Int32) (x5 : Int32) : zx_X B zm_Ref_one (zx_QM B (fun r => ((some (Value.int r) : Option Value), h))) (zs_Ref_one_L28_body h  k28 x1 x2 x4 x5) 0 0 28 [(0, zx_rV (zx_BK B) 24 0), (1, .int x1), (2, .int x2), (4, .int x4), (5, .int x5)] [] h := by
  unfold zs_Ref_one_L28_body
  refine zx_iload E 4 dd_Ref_one_28 rfl ?_
  refine zx_aload_n E 0 dd_Ref_one_30 rfl rfl ?_
  refine zx_getI E zd_Ref_methods zg_24 Nat.zero_lt_one zw_1115 dd_Ref_one_31 ?_
  refine zx_icmp_ge E 101 dd_Ref_one_34 rfl ?_ ?_
  · refine zx_aload_n E 0 dd_Ref_one_37 rfl rfl ?_
    refine zx_getR E 30 0 zd_Ref_methodFrom zg_24 Nat.zero_lt_one (zr_Ref_methodFrom _) zw_1116 dd_Ref_one_38 ?_
    refine zx_iload E 4 dd_Ref_one_41 rfl ?_
    refine zx_iald E zg_30 Nat.zero_lt_one dd_Ref_one_43 ?_
    refine zx_iload_n E 1 dd_Ref_one_44 rfl rfl ?_
    refine zx_icmp_ne E 63 dd_Ref_one_45 rfl ?_ ?_
    rotate_left
    · exact zj_Ref_one_63 E h k28 hk28 x1 x2 x4 x5
    refine zx_aload_n E 0 dd_Ref_one_48 rfl rfl ?_
    refine zx_getR E 31 0 zd_Ref_methodTo zg_24 Nat.zero_lt_one (zr_Ref_methodTo _) zw_1117 dd_Ref_one_49 ?_
    refine zx_iload E 4 dd_Ref_one_52 rfl ?_
    refine zx_iald E zg_31 Nat.zero_lt_one dd_Ref_one_54 ?_
    refine zx_iload_n E 2 dd_Ref_one_55 rfl rfl ?_
    refine zx_icmp_ne E 63 dd_Ref_one_56 rfl ?_ ?_
    rotate_left
    · exact zj_Ref_one_63 E h k28 hk28 x1 x2 x4 x5
    refine zx_iconst E (1 : Int32) dd_Ref_one_59 (by decide) ?_
    refine zx_goto E 64 dd_Ref_one_60 rfl ?_
    exact zj_Ref_one_64 E h k28 hk28 x1 x2 x4 x5 true
  refine zx_iload E 3 dd_Ref_one_101 rfl ?_
  refine zx_iconst E (-1 : Int32) dd_Ref_one_103 (by decide) ?_
  refine zx_icmp_eq E 110 dd_Ref_one_104 rfl ?_ ?_
  · refine zx_iload E 3 dd_Ref_one_107 rfl ?_
    exact zx_iret E rfl rfl dd_Ref_one_109
  refine zx_aload_n E 0 dd_Ref_one_110 rfl rfl ?_
  refine zx_iload_n E 1 dd_Ref_one_111 rfl rfl ?_
  refine zx_iload_n E 2 dd_Ref_one_112 rfl rfl ?_
  refine zx_callV_z (T := zx_TRef) E [.int x1, .int x2] (fun rZ eZ => zt_Ref_converts _ _ x1 x2 h _ eZ) zg_24 Nat.zero_lt_one rfl zc_Ref_177 ⟨by decide, by decide⟩ (Nat.zero_le _) (Nat.zero_le _) rfl rfl (Nat.le_of_ble_eq_true rfl) dd_Ref_one_113 (fun r1 => ?_)
  refine zx_ifb_eq E (x := r1) 121 dd_Ref_one_116 rfl ?_ ?_
  · refine zx_iconst E (1 : Int32) dd_Ref_one_119 (by decide) ?_
    exact zx_iret E rfl rfl dd_Ref_one_120
  refine zx_aload_n E 0 dd_Ref_one_121 rfl rfl ?_
  refine zx_iload_n E 1 dd_Ref_one_122 rfl rfl ?_
  refine zx_iload_n E 2 dd_Ref_one_123 rfl rfl ?_
  refine zx_iconst E (1 : Int32) dd_Ref_one_124 (by decide) ?_
  refine zx_callV_i (T := zx_TRef) E [.int x1, .int x2, .int (1 : Int32)] (fun rZ eZ => zt_Ref_functionOf _ _ x1 x2 true h _ eZ) zg_24 Nat.zero_lt_one rfl zc_Ref_173 ⟨by decide, by decide⟩ (Nat.zero_le _) (Nat.zero_le _) rfl rfl (Nat.le_of_ble_eq_true rfl) dd_Ref_one_125 (fun r2 => ?_)
  refine zx_istore_n E (lv1 := [(3, .int r2), (0, zx_rV (zx_BK B) 24 0), (1, .int x1), (2, .int x2), (4, .int x4), (5, .int x5)]) dd_Ref_one_128 rfl (by decide) rfl ?_
  refine zx_iload_n E 0 dd_Ref_one_129 rfl rfl ?_
  refine zx_iconst E (-1 : Int32) dd_Ref_one_130 (by decide) ?_
  refine zx_icmp_eq E 138 dd_Ref_one_131 rfl ?_ ?_
  · refine zx_iload_n E 0 dd_Ref_one_134 rfl rfl ?_
    refine zx_goto E 163 dd_Ref_one_135 rfl ?_
    exact zx_iret E rfl rfl dd_Ref_one_163
  refine zx_aload_n E 1 dd_Ref_one_138 rfl rfl ?_
  refine zx_getR E 25 0 zd_Ref_sort zg_24 Nat.zero_lt_one (zr_Ref_sort _) zw_1110 dd_Ref_one_139 ?_
  refine zx_iload_n E 2 dd_Ref_one_142 rfl rfl ?_
  refine zx_iald E zg_25 Nat.zero_lt_one dd_Ref_one_143 ?_
  refine zx_iconst E (5 : Int32) dd_Ref_one_144 (by decide) ?_
  refine zx_icmp_ne E 162 dd_Ref_one_145 rfl ?_ ?_
  rotate_left
  · refine zx_sub [] rfl ?_
    exact zj_Ref_one_162 E h
  refine zx_aload_n E 1 dd_Ref_one_148 rfl rfl ?_
  refine zx_getR E 25 0 zd_Ref_sort zg_24 Nat.zero_lt_one (zr_Ref_sort _) zw_1110 dd_Ref_one_149 ?_
  refine zx_iload_n E 3 dd_Ref_one_152 rfl rfl ?_
  refine zx_iald E zg_25 Nat.zero_lt_one dd_Ref_one_153 ?_
  refine zx_iconst E (5 : Int32) dd_Ref_one_154 (by decide) ?_
  refine zx_icmp_ne E 162 dd_Ref_one_155 rfl ?_ ?_
  rotate_left
  · refine zx_sub [] rfl ?_
    exact zj_Ref_one_162 E h
  refine zx_iconst E (2 : Int32) dd_Ref_one_158 (by decide) ?_
  refine zx_goto E 163 dd_Ref_one_159 rfl ?_
  exact zx_iret E rfl rfl dd_Ref_one_163
theorem zj_Ref_one_28 {B : zx_B} (E : zx_E B zm_Ref_one) (h : zx_H)  : ∀ (x1 : Int32) (x2 : Int32) (x4 : Int32) (x5 : Int32), zx_X B zm_Ref_one (zx_QM B (fun r => ((some (Value.int r) : Option Value), h))) (zs_Ref_one_L28 h  x1 x2 x4 x5) 0 0 28 [(0, zx_rV (zx_BK B) 24 0), (1, .int x1), (2, .int x2), (4, .int x4), (5, .int x5)] [] h := by
  unfold zs_Ref_one_L28
  generalize zx_fuel = n
  induction n with
  | zero => intros; exact zx_non
  | succ n ih => intro x1 x2 x4 x5; exact zb_Ref_one_28 E h  _ ih x1 x2 x4 x5
set_option maxHeartbeats 4000000 in
set_option maxRecDepth 20000 in
theorem zt_Ref_one (l : Launch) (K : zx_K) (a1 : Int32) (a2 : Int32) (h : zx_H) (r : Int32) (hf : zs_Ref_one a1 a2 h = some r) : zx_MR l zm_Ref_one zy_Ref_one K [zx_rV K 24 0, .int a1, .int a2] h (some (.int r)) h := by
  refine zx_ofM (M := zm_Ref_one) (y := zy_Ref_one) (r := r) (as := [zx_rV K 24 0, .int a1, .int a2]) (ρ := (fun r => ((some (Value.int r) : Option Value), h))) (by decide) rfl hf (Nat.le_of_ble_eq_true rfl) ?_
  intro B hl hK E
  subst hK
  subst hl
  show zx_X B zm_Ref_one _ _ 0 0 0 [(0, zx_rV (zx_BK B) 24 0), (1, .int a1), (2, .int a2)] [] h
  unfold zs_Ref_one
  refine zx_iload_n E 1 dd_Ref_one_0 rfl rfl ?_
  refine zx_iload_n E 2 dd_Ref_one_1 rfl rfl ?_
  refine zx_icmp_ne E 7 dd_Ref_one_2 rfl ?_ ?_
  · refine zx_iconst E (0 : Int32) dd_Ref_one_5 (by decide) ?_
    exact zx_iret E rfl rfl dd_Ref_one_6
  refine zx_aload_n E 0 dd_Ref_one_7 rfl rfl ?_
  refine zx_iload_n E 1 dd_Ref_one_8 rfl rfl ?_
  refine zx_iload_n E 2 dd_Ref_one_9 rfl rfl ?_
  refine zx_iconst E (0 : Int32) dd_Ref_one_10 (by decide) ?_
  refine zx_callV_i (T := zx_TRef) E [.int a1, .int a2, .int (0 : Int32)] (fun rZ eZ => zt_Ref_functionOf _ _ a1 a2 false h _ eZ) zg_24 Nat.zero_lt_one rfl zc_Ref_173 ⟨by decide, by decide⟩ (Nat.zero_le _) (Nat.zero_le _) rfl rfl (Nat.le_of_ble_eq_true rfl) dd_Ref_one_11 (fun r1 => ?_)
  refine zx_istore_n E (lv1 := [(3, .int r1), (0, zx_rV (zx_BK B) 24 0), (1, .int a1), (2, .int a2)]) dd_Ref_one_14 rfl (by decide) rfl ?_
  refine zx_iload_n E 0 dd_Ref_one_15 rfl rfl ?_
  refine zx_iconst E (-1 : Int32) dd_Ref_one_16 (by decide) ?_
  refine zx_icmp_eq E 22 dd_Ref_one_17 rfl ?_ ?_
  · refine zx_iload_n E 0 dd_Ref_one_20 rfl rfl ?_
    exact zx_iret E rfl rfl dd_Ref_one_21
  refine zx_iconst E (-1 : Int32) dd_Ref_one_22 (by decide) ?_
  refine zx_istore E (lv1 := [(4, .int (-1 : Int32)), (3, .int r1), (0, zx_rV (zx_BK B) 24 0), (1, .int a1), (2, .int a2)]) dd_Ref_one_23 (by decide) rfl ?_
  refine zx_iconst E (0 : Int32) dd_Ref_one_25 (by decide) ?_
  refine zx_istore E (lv1 := [(5, .int (0 : Int32)), (4, .int (-1 : Int32)), (3, .int r1), (0, zx_rV (zx_BK B) 24 0), (1, .int a1), (2, .int a2)]) dd_Ref_one_26 (by decide) rfl ?_
  refine zx_sub [3, 4, 5, 1, 0] rfl ?_
  exact zj_Ref_one_28 E h a1 a2 (-1 : Int32) (0 : Int32)
set_option maxHeartbeats 4000000 in
set_option maxRecDepth 20000 in
theorem zb_Ref_how_18 {B : zx_B} (E : zx_E B zm_Ref_how) (h : zx_H)  (k18 : (Int32 → Int32 → Int32 → Int32 → Option Int32)) (hk18 : ∀ (x3 : Int32) (x4 : Int32) (x5 : Int32) (x6 : Int32), zx_X B zm_Ref_how (zx_QM B (fun r => ((some (Value.int r) : Option Value), h))) (k18 x3 x4 x5 x6) 0 0 18 [(0, zx_rV (zx_BK B) 24 0), (3, .int x3), (4, .int x4), (5, .int x5), (6, .int x6)] [] h) (x3 : Int32) (x4 : Int32) (x5 : Int32) (x6 : Int32) : zx_X B zm_Ref_how (zx_QM B (fun r => ((some (Value.int r) : Option Value), h))) (zs_Ref_how_L18_body h  k18 x3 x4 x5 x6) 0 0 18 [(0, zx_rV (zx_BK B) 24 0), (3, .int x3), (4, .int x4), (5, .int x5), (6, .int x6)] [] h := by
  unfold zs_Ref_how_L18_body
  refine zx_iload E 3 dd_Ref_how_18 rfl ?_
  refine zx_iconst E (2 : Int32) dd_Ref_how_20 (by decide) ?_
  refine zx_icmp_ne E 52 dd_Ref_how_21 rfl ?_ ?_
  rotate_left
  · refine zx_iload E 3 dd_Ref_how_52 rfl ?_
    refine zx_if_ge E 62 dd_Ref_how_54 rfl ?_ ?_
    rotate_left
    · refine zx_iload E 4 dd_Ref_how_62 rfl ?_
      exact zx_iret E rfl rfl dd_Ref_how_64
    refine zx_iload E 3 dd_Ref_how_57 rfl ?_
    refine zx_goto E 64 dd_Ref_how_59 rfl ?_
    exact zx_iret E rfl rfl dd_Ref_how_64
  refine zx_aload_n E 0 dd_Ref_how_24 rfl rfl ?_
  refine zx_getR E 29 0 zd_Ref_of zg_24 Nat.zero_lt_one (zr_Ref_of _) zw_1114 dd_Ref_how_25 ?_
  refine zx_iload_n E 1 dd_Ref_how_28 rfl rfl ?_
  refine zx_iald E zg_29 Nat.zero_lt_one dd_Ref_how_29 ?_
  refine zx_leti (fun y1 => ?_)
  refine zx_istore_n E (lv1 := [(3, .int y1), (0, zx_rV (zx_BK B) 24 0), (4, .int x4), (5, .int x5), (6, .int x6)]) dd_Ref_how_30 rfl (by decide) rfl ?_
  refine zx_aload_n E 1 dd_Ref_how_31 rfl rfl ?_
  refine zx_getR E 29 0 zd_Ref_of zg_24 Nat.zero_lt_one (zr_Ref_of _) zw_1114 dd_Ref_how_32 ?_
  refine zx_iload E 2 dd_Ref_how_35 rfl ?_
  refine zx_iald E zg_29 Nat.zero_lt_one dd_Ref_how_37 ?_
  refine zx_leti (fun y2 => ?_)
  refine zx_istore E (lv1 := [(4, .int y2), (3, .int y1), (0, zx_rV (zx_BK B) 24 0), (5, .int x5), (6, .int x6)]) dd_Ref_how_38 (by decide) rfl ?_
  refine zx_aload_n E 2 dd_Ref_how_40 rfl rfl ?_
  refine zx_iload_n E 1 dd_Ref_how_41 rfl rfl ?_
  refine zx_iload E 0 dd_Ref_how_42 rfl ?_
  refine zx_callV_i (T := zx_TRef) E [.int y1, .int y2] (fun rZ eZ => zt_Ref_one _ _ y1 y2 h _ eZ) zg_24 Nat.zero_lt_one rfl zc_Ref_170 ⟨by decide, by decide⟩ (Nat.zero_le _) (Nat.zero_le _) rfl rfl (Nat.le_of_ble_eq_true rfl) dd_Ref_how_44 (fun r3 => ?_)
  refine zx_istore E (lv1 := [(5, .int r3), (4, .int y2), (3, .int y1), (0, zx_rV (zx_BK B) 24 0), (6, .int x6)]) dd_Ref_how_47 (by decide) rfl ?_
  refine zx_goto E 18 dd_Ref_how_49 rfl ?_
  refine zx_sub [3, 2, 1, 0, 4] rfl ?_
  exact hk18 y1 y2 r3 x6
theorem zj_Ref_how_18 {B : zx_B} (E : zx_E B zm_Ref_how) (h : zx_H)  : ∀ (x3 : Int32) (x4 : Int32) (x5 : Int32) (x6 : Int32), zx_X B zm_Ref_how (zx_QM B (fun r => ((some (Value.int r) : Option Value), h))) (zs_Ref_how_L18 h  x3 x4 x5 x6) 0 0 18 [(0, zx_rV (zx_BK B) 24 0), (3, .int x3), (4, .int x4), (5, .int x5), (6, .int x6)] [] h := by
  unfold zs_Ref_how_L18
  generalize zx_fuel = n
  induction n with
  | zero => intros; exact zx_non
  | succ n ih => intro x3 x4 x5 x6; exact zb_Ref_how_18 E h  _ ih x3 x4 x5 x6
set_option maxHeartbeats 4000000 in
set_option maxRecDepth 20000 in
theorem zt_Ref_how (l : Launch) (K : zx_K) (a1 : Int32) (a2 : Int32) (h : zx_H) (r : Int32) (hf : zs_Ref_how a1 a2 h = some r) : zx_MR l zm_Ref_how zy_Ref_how K [zx_rV K 24 0, .int a1, .int a2] h (some (.int r)) h := by
  refine zx_ofM (M := zm_Ref_how) (y := zy_Ref_how) (r := r) (as := [zx_rV K 24 0, .int a1, .int a2]) (ρ := (fun r => ((some (Value.int r) : Option Value), h))) (by decide) rfl hf (Nat.le_of_ble_eq_true rfl) ?_
  intro B hl hK E
  subst hK
  subst hl
  show zx_X B zm_Ref_how _ _ 0 0 0 [(0, zx_rV (zx_BK B) 24 0), (1, .int a1), (2, .int a2)] [] h
  unfold zs_Ref_how
  refine zx_iload_n E 1 dd_Ref_how_0 rfl rfl ?_
  refine zx_istore_n E (lv1 := [(3, .int a1), (0, zx_rV (zx_BK B) 24 0), (1, .int a1), (2, .int a2)]) dd_Ref_how_1 rfl (by decide) rfl ?_
  refine zx_iload_n E 3 dd_Ref_how_2 rfl rfl ?_
  refine zx_istore E (lv1 := [(4, .int a2), (3, .int a1), (0, zx_rV (zx_BK B) 24 0), (1, .int a1), (2, .int a2)]) dd_Ref_how_3 (by decide) rfl ?_
  refine zx_aload_n E 2 dd_Ref_how_5 rfl rfl ?_
  refine zx_iload_n E 1 dd_Ref_how_6 rfl rfl ?_
  refine zx_iload E 0 dd_Ref_how_7 rfl ?_
  refine zx_callV_i (T := zx_TRef) E [.int a1, .int a2] (fun rZ eZ => zt_Ref_one _ _ a1 a2 h _ eZ) zg_24 Nat.zero_lt_one rfl zc_Ref_170 ⟨by decide, by decide⟩ (Nat.zero_le _) (Nat.zero_le _) rfl rfl (Nat.le_of_ble_eq_true rfl) dd_Ref_how_9 (fun r1 => ?_)
  refine zx_istore E (lv1 := [(5, .int r1), (4, .int a2), (3, .int a1), (0, zx_rV (zx_BK B) 24 0), (1, .int a1), (2, .int a2)]) dd_Ref_how_12 (by decide) rfl ?_
  refine zx_iload E 0 dd_Ref_how_14 rfl ?_
  refine zx_istore E (lv1 := [(6, .int r1), (5, .int r1), (4, .int a2), (3, .int a1), (0, zx_rV (zx_BK B) 24 0), (1, .int a1), (2, .int a2)]) dd_Ref_how_16 (by decide) rfl ?_
  refine zx_sub [4, 3, 2, 1, 0] rfl ?_
  exact zj_Ref_how_18 E h a1 a2 r1 r1
set_option maxHeartbeats 4000000 in
set_option maxRecDepth 20000 in
theorem zt_Ref_faulty (l : Launch) (K : zx_K) (a1 : Int32) (a2 : Int32) (a3 : Int32) (h : zx_H) (r : (Bool × zx_H)) (hf : zs_Ref_faulty a1 a2 a3 h = some r) : zx_MR l zm_Ref_faulty zy_Ref_faulty K [zx_rV K 24 0, .int a1, .int a2, .int a3] h (some (.int (zx_b r.1))) r.2 := by
  refine zx_ofM (M := zm_Ref_faulty) (y := zy_Ref_faulty) (r := r) (as := [zx_rV K 24 0, .int a1, .int a2, .int a3]) (ρ := (fun r => ((some (Value.int (zx_b r.1)) : Option Value), r.2))) (by decide) rfl hf (Nat.le_of_ble_eq_true rfl) ?_
  intro B hl hK E
  subst hK
  subst hl
  show zx_X B zm_Ref_faulty _ _ 0 0 0 [(0, zx_rV (zx_BK B) 24 0), (1, .int a1), (2, .int a2), (3, .int a3)] [] h
  unfold zs_Ref_faulty
  refine zx_aload_n E 0 dd_Ref_faulty_0 rfl rfl ?_
  refine zx_iload_n E 1 dd_Ref_faulty_1 rfl rfl ?_
  refine zx_putI E zd_Ref_diagnosis zp_Ref_diagnosis zg_24 Nat.zero_lt_one rfl rfl zw_1127 dd_Ref_faulty_2 ?_
  refine zx_letH (fun h1 => ?_)
  refine zx_aload_n E 0 dd_Ref_faulty_5 rfl rfl ?_
  refine zx_iload_n E 2 dd_Ref_faulty_6 rfl rfl ?_
  refine zx_putI E zd_Ref_faultyMethod zp_Ref_faultyMethod zg_24 Nat.zero_lt_one rfl rfl zw_1128 dd_Ref_faulty_7 ?_
  refine zx_letH (fun h2 => ?_)
  refine zx_aload_n E 0 dd_Ref_faulty_10 rfl rfl ?_
  refine zx_iload_n E 3 dd_Ref_faulty_11 rfl rfl ?_
  refine zx_putI E zd_Ref_faultyPlace zp_Ref_faultyPlace zg_24 Nat.zero_lt_one rfl rfl zw_1129 dd_Ref_faulty_12 ?_
  refine zx_letH (fun h3 => ?_)
  refine zx_iconst E (1 : Int32) dd_Ref_faulty_15 (by decide) ?_
  exact zx_zret E true rfl rfl rfl dd_Ref_faulty_16
set_option maxHeartbeats 4000000 in
set_option maxRecDepth 20000 in
theorem zj_Ref_isWrongInverse_86 {B : zx_B} (E : zx_E B zm_Ref_isWrongInverse) (h : zx_H)   : zx_X B zm_Ref_isWrongInverse (zx_QM B (fun r => ((some (Value.int (zx_b r)) : Option Value), h))) (zs_Ref_isWrongInverse_J86 h  ) 0 0 86 [] [] h := by
  unfold zs_Ref_isWrongInverse_J86
  refine zx_iconst E (1 : Int32) dd_Ref_isWrongInverse_86 (by decide) ?_
  refine zx_goto E 91 dd_Ref_isWrongInverse_87 rfl ?_
  exact zx_zret E true rfl rfl rfl dd_Ref_isWrongInverse_91
set_option maxHeartbeats 4000000 in
set_option maxRecDepth 20000 in
theorem zt_Ref_isWrongInverse (l : Launch) (K : zx_K) (a1 : Int32) (h : zx_H) (r : Bool) (hf : zs_Ref_isWrongInverse a1 h = some r) : zx_MR l zm_Ref_isWrongInverse zy_Ref_isWrongInverse K [zx_rV K 24 0, .int a1] h (some (.int (zx_b r))) h := by
  refine zx_ofM (M := zm_Ref_isWrongInverse) (y := zy_Ref_isWrongInverse) (r := r) (as := [zx_rV K 24 0, .int a1]) (ρ := (fun r => ((some (Value.int (zx_b r)) : Option Value), h))) (by decide) rfl hf (Nat.le_of_ble_eq_true rfl) ?_
  intro B hl hK E
  subst hK
  subst hl
  show zx_X B zm_Ref_isWrongInverse _ _ 0 0 0 [(0, zx_rV (zx_BK B) 24 0), (1, .int a1)] [] h
  unfold zs_Ref_isWrongInverse
  refine zx_aload_n E 0 dd_Ref_isWrongInverse_0 rfl rfl ?_
  refine zx_iload_n E 1 dd_Ref_isWrongInverse_1 rfl rfl ?_
  refine zx_bipush E (7 : Int32) dd_Ref_isWrongInverse_2 (by decide) ?_
  refine zx_callV_i (T := zx_TRef) E [.int a1, .int (7 : Int32)] (fun rZ eZ => zt_Ref_latest _ _ a1 (7 : Int32) h _ eZ) zg_24 Nat.zero_lt_one rfl zc_Ref_148 ⟨by decide, by decide⟩ (Nat.zero_le _) (Nat.zero_le _) rfl rfl (Nat.le_of_ble_eq_true rfl) dd_Ref_isWrongInverse_4 (fun r1 => ?_)
  refine zx_istore_n E (lv1 := [(2, .int r1), (0, zx_rV (zx_BK B) 24 0), (1, .int a1)]) dd_Ref_isWrongInverse_7 rfl (by decide) rfl ?_
  refine zx_iload_n E 0 dd_Ref_isWrongInverse_8 rfl rfl ?_
  refine zx_if_ge E 14 dd_Ref_isWrongInverse_9 rfl ?_ ?_
  · refine zx_iconst E (0 : Int32) dd_Ref_isWrongInverse_12 (by decide) ?_
    exact zx_zret E false rfl rfl rfl dd_Ref_isWrongInverse_13
  refine zx_aload_n E 1 dd_Ref_isWrongInverse_14 rfl rfl ?_
  refine zx_getR E 35 0 zd_Ref_whats zg_24 Nat.zero_lt_one (zr_Ref_whats _) zw_1121 dd_Ref_isWrongInverse_15 ?_
  refine zx_iload_n E 0 dd_Ref_isWrongInverse_18 rfl rfl ?_
  refine zx_lald E zg_35 Nat.zero_lt_one dd_Ref_isWrongInverse_19 ?_
  refine zx_letl (fun y2 => ?_)
  refine zx_lstore_n E (lv1 := [(3, .long y2), (2, .int r1), (0, zx_rV (zx_BK B) 24 0), (1, .int a1)]) dd_Ref_isWrongInverse_20 rfl (by decide) rfl ?_
  refine zx_lload_n E 0 dd_Ref_isWrongInverse_21 rfl rfl ?_
  refine zx_lconst E (0 : Int64) dd_Ref_isWrongInverse_22 rfl ?_
  refine zx_lcmp_lt E 37 dd_Ref_isWrongInverse_23 dd_Ref_isWrongInverse_24 rfl ?_ ?_
  rotate_left
  · refine zx_iconst E (1 : Int32) dd_Ref_isWrongInverse_37 (by decide) ?_
    exact zx_zret E true rfl rfl rfl dd_Ref_isWrongInverse_38
  refine zx_lload_n E 0 dd_Ref_isWrongInverse_27 rfl rfl ?_
  refine zx_aload_n E 2 dd_Ref_isWrongInverse_28 rfl rfl ?_
  refine zx_getI E zd_Ref_methods zg_24 Nat.zero_lt_one zw_1115 dd_Ref_isWrongInverse_29 ?_
  refine zx_i2l E dd_Ref_isWrongInverse_32 ?_
  refine zx_lcmp_lt E 39 dd_Ref_isWrongInverse_33 dd_Ref_isWrongInverse_34 rfl ?_ ?_
  · refine zx_iconst E (1 : Int32) dd_Ref_isWrongInverse_37 (by decide) ?_
    exact zx_zret E true rfl rfl rfl dd_Ref_isWrongInverse_38
  refine zx_lload_n E 0 dd_Ref_isWrongInverse_39 rfl rfl ?_
  refine zx_l2i E dd_Ref_isWrongInverse_40 ?_
  refine zx_leti (fun y3 => ?_)
  refine zx_istore E (lv1 := [(5, .int y3), (3, .long y2), (2, .int r1), (0, zx_rV (zx_BK B) 24 0), (1, .int a1)]) dd_Ref_isWrongInverse_41 (by decide) rfl ?_
  refine zx_aload_n E 3 dd_Ref_isWrongInverse_43 rfl rfl ?_
  refine zx_getR E 30 0 zd_Ref_methodFrom zg_24 Nat.zero_lt_one (zr_Ref_methodFrom _) zw_1116 dd_Ref_isWrongInverse_44 ?_
  refine zx_iload E 0 dd_Ref_isWrongInverse_47 rfl ?_
  refine zx_iald E zg_30 Nat.zero_lt_one dd_Ref_isWrongInverse_49 ?_
  refine zx_aload_n E 3 dd_Ref_isWrongInverse_50 rfl rfl ?_
  refine zx_getR E 31 0 zd_Ref_methodTo zg_24 Nat.zero_lt_one (zr_Ref_methodTo _) zw_1117 dd_Ref_isWrongInverse_51 ?_
  refine zx_iload_n E 4 dd_Ref_isWrongInverse_54 rfl rfl ?_
  refine zx_iald E zg_31 Nat.zero_lt_one dd_Ref_isWrongInverse_55 ?_
  refine zx_icmp_ne E 86 dd_Ref_isWrongInverse_56 rfl ?_ ?_
  rotate_left
  · refine zx_sub [] rfl ?_
    exact zj_Ref_isWrongInverse_86 E h
  refine zx_aload_n E 3 dd_Ref_isWrongInverse_59 rfl rfl ?_
  refine zx_getR E 31 0 zd_Ref_methodTo zg_24 Nat.zero_lt_one (zr_Ref_methodTo _) zw_1117 dd_Ref_isWrongInverse_60 ?_
  refine zx_iload E 0 dd_Ref_isWrongInverse_63 rfl ?_
  refine zx_iald E zg_31 Nat.zero_lt_one dd_Ref_isWrongInverse_65 ?_
  refine zx_aload_n E 3 dd_Ref_isWrongInverse_66 rfl rfl ?_
  refine zx_getR E 30 0 zd_Ref_methodFrom zg_24 Nat.zero_lt_one (zr_Ref_methodFrom _) zw_1116 dd_Ref_isWrongInverse_67 ?_
  refine zx_iload_n E 4 dd_Ref_isWrongInverse_70 rfl rfl ?_
  refine zx_iald E zg_30 Nat.zero_lt_one dd_Ref_isWrongInverse_71 ?_
  refine zx_icmp_ne E 86 dd_Ref_isWrongInverse_72 rfl ?_ ?_
  rotate_left
  · refine zx_sub [] rfl ?_
    exact zj_Ref_isWrongInverse_86 E h
  refine zx_aload_n E 3 dd_Ref_isWrongInverse_75 rfl rfl ?_
  refine zx_iload E 0 dd_Ref_isWrongInverse_76 rfl ?_
  refine zx_bipush E (7 : Int32) dd_Ref_isWrongInverse_78 (by decide) ?_
  refine zx_callV_i (T := zx_TRef) E [.int y3, .int (7 : Int32)] (fun rZ eZ => zt_Ref_latest _ _ y3 (7 : Int32) h _ eZ) zg_24 Nat.zero_lt_one rfl zc_Ref_148 ⟨by decide, by decide⟩ (Nat.zero_le _) (Nat.zero_le _) rfl rfl (Nat.le_of_ble_eq_true rfl) dd_Ref_isWrongInverse_80 (fun r4 => ?_)
  refine zx_if_lt E 90 dd_Ref_isWrongInverse_83 rfl ?_ ?_
  · refine zx_sub [] rfl ?_
    exact zj_Ref_isWrongInverse_86 E h
  refine zx_iconst E (0 : Int32) dd_Ref_isWrongInverse_90 (by decide) ?_
  exact zx_zret E false rfl rfl rfl dd_Ref_isWrongInverse_91
set_option maxHeartbeats 4000000 in
set_option maxRecDepth 20000 in
theorem zj_Ref_wrong_104 {B : zx_B} (E : zx_E B zm_Ref_wrong) (h : zx_H) (k35 : (Int32 → Int32 → Int32 → Bool → Int32 → Option Int32)) (hk35 : ∀ (x1 : Int32) (x2 : Int32) (x3 : Int32) (x4 : Bool) (x5 : Int32), zx_X B zm_Ref_wrong (zx_QM B (fun r => ((some (Value.int r) : Option Value), h))) (k35 x1 x2 x3 x4 x5) 0 0 35 [(0, zx_rV (zx_BK B) 24 0), (1, .int x1), (2, .int x2), (3, .int x3), (4, .int (zx_b x4)), (5, .int x5)] [] h) (x1 : Int32) (x2 : Int32) (x3 : Int32) (x4 : Bool) (x5 : Int32) : zx_X B zm_Ref_wrong (zx_QM B (fun r => ((some (Value.int r) : Option Value), h))) (zs_Ref_wrong_J104 h k35 x1 x2 x3 x4 x5) 0 0 104 [(0, zx_rV (zx_BK B) 24 0), (1, .int x1), (2, .int x2), (3, .int x3), (4, .int (zx_b x4)), (5, .int x5)] [] h := by
  unfold zs_Ref_wrong_J104
  refine zx_iinc E 5 (x5 + (1 : Int32)) (lv1 := [(5, .int (x5 + (1 : Int32))), (0, zx_rV (zx_BK B) 24 0), (1, .int x1), (2, .int x2), (3, .int x3), (4, .int (zx_b x4))]) dd_Ref_wrong_104 rfl rfl (by decide) rfl ?_
  refine zx_goto E 35 dd_Ref_wrong_107 rfl ?_
  refine zx_sub [1, 2, 3, 4, 5, 0] rfl ?_
  exact hk35 x1 x2 x3 x4 (x5 + (1 : Int32))
set_option maxHeartbeats 4000000 in
set_option maxRecDepth 20000 in
theorem zj_Ref_wrong_79 {B : zx_B} (E : zx_E B zm_Ref_wrong) (h : zx_H) (k35 : (Int32 → Int32 → Int32 → Bool → Int32 → Option Int32)) (hk35 : ∀ (x1 : Int32) (x2 : Int32) (x3 : Int32) (x4 : Bool) (x5 : Int32), zx_X B zm_Ref_wrong (zx_QM B (fun r => ((some (Value.int r) : Option Value), h))) (k35 x1 x2 x3 x4 x5) 0 0 35 [(0, zx_rV (zx_BK B) 24 0), (1, .int x1), (2, .int x2), (3, .int x3), (4, .int (zx_b x4)), (5, .int x5)] [] h) (x1 : Int32) (x2 : Int32) (x3 : Int32) (x4 : Bool) (x5 : Int32) (s0 : Bool) : zx_X B zm_Ref_wrong (zx_QM B (fun r => ((some (Value.int r) : Option Value), h))) (zs_Ref_wrong_J79 h k35 x1 x2 x3 x4 x5 s0) 0 0 79 [(0, zx_rV (zx_BK B) 24 0), (1, .int x1), (2, .int x2), (3, .int x3), (4, .int (zx_b x4)), (5, .int x5)] [.int (zx_b s0)] h := by
  unfold zs_Ref_wrong_J79
  refine zx_istore E (lv1 := [(6, .int (zx_b s0)), (0, zx_rV (zx_BK B) 24 0), (1, .int x1), (2, .int x2), (3, .int x3), (4, .int (zx_b x4)), (5, .int x5)]) dd_Ref_wrong_79 (by decide) rfl ?_
  refine zx_iload E 0 dd_Ref_wrong_81 rfl ?_
  refine zx_ifb_eq E (x := s0) 104 dd_Ref_wrong_83 rfl ?_ ?_
  rotate_left
  · refine zx_sub [1, 2, 3, 4, 5, 6] rfl ?_
    exact zj_Ref_wrong_104 E h k35 hk35 x1 x2 x3 x4 x5
  refine zx_aload_n E 1 dd_Ref_wrong_86 rfl rfl ?_
  refine zx_getR E 34 0 zd_Ref_targets zg_24 Nat.zero_lt_one (zr_Ref_targets _) zw_1120 dd_Ref_wrong_87 ?_
  refine zx_iload E 6 dd_Ref_wrong_90 rfl ?_
  refine zx_iald E zg_34 Nat.zero_lt_one dd_Ref_wrong_92 ?_
  refine zx_aload_n E 1 dd_Ref_wrong_93 rfl rfl ?_
  refine zx_getR E 34 0 zd_Ref_targets zg_24 Nat.zero_lt_one (zr_Ref_targets _) zw_1120 dd_Ref_wrong_94 ?_
  refine zx_iload_n E 3 dd_Ref_wrong_97 rfl rfl ?_
  refine zx_iald E zg_34 Nat.zero_lt_one dd_Ref_wrong_98 ?_
  refine zx_icmp_ne E 104 dd_Ref_wrong_99 rfl ?_ ?_
  · refine zx_iconst E (2 : Int32) dd_Ref_wrong_102 (by decide) ?_
    exact zx_iret E rfl rfl dd_Ref_wrong_103
  refine zx_sub [1, 2, 3, 4, 5, 6] rfl ?_
  exact zj_Ref_wrong_104 E h k35 hk35 x1 x2 x3 x4 x5
set_option maxHeartbeats 4000000 in
set_option maxRecDepth 20000 in
theorem zj_Ref_wrong_74 {B : zx_B} (E : zx_E B zm_Ref_wrong) (h : zx_H) (k35 : (Int32 → Int32 → Int32 → Bool → Int32 → Option Int32)) (hk35 : ∀ (x1 : Int32) (x2 : Int32) (x3 : Int32) (x4 : Bool) (x5 : Int32), zx_X B zm_Ref_wrong (zx_QM B (fun r => ((some (Value.int r) : Option Value), h))) (k35 x1 x2 x3 x4 x5) 0 0 35 [(0, zx_rV (zx_BK B) 24 0), (1, .int x1), (2, .int x2), (3, .int x3), (4, .int (zx_b x4)), (5, .int x5)] [] h) (x1 : Int32) (x2 : Int32) (x3 : Int32) (x4 : Bool) (x5 : Int32) : zx_X B zm_Ref_wrong (zx_QM B (fun r => ((some (Value.int r) : Option Value), h))) (zs_Ref_wrong_J74 h k35 x1 x2 x3 x4 x5) 0 0 74 [(0, zx_rV (zx_BK B) 24 0), (1, .int x1), (2, .int x2), (3, .int x3), (4, .int (zx_b x4)), (5, .int x5)] [] h := by
  unfold zs_Ref_wrong_J74
  refine zx_iconst E (1 : Int32) dd_Ref_wrong_74 (by decide) ?_
  refine zx_goto E 79 dd_Ref_wrong_75 rfl ?_
  exact zj_Ref_wrong_79 E h k35 hk35 x1 x2 x3 x4 x5 true
set_option maxHeartbeats 4000000 in
set_option maxRecDepth 20000 in
theorem zj_Ref_wrong_78 {B : zx_B} (E : zx_E B zm_Ref_wrong) (h : zx_H) (k35 : (Int32 → Int32 → Int32 → Bool → Int32 → Option Int32)) (hk35 : ∀ (x1 : Int32) (x2 : Int32) (x3 : Int32) (x4 : Bool) (x5 : Int32), zx_X B zm_Ref_wrong (zx_QM B (fun r => ((some (Value.int r) : Option Value), h))) (k35 x1 x2 x3 x4 x5) 0 0 35 [(0, zx_rV (zx_BK B) 24 0), (1, .int x1), (2, .int x2), (3, .int x3), (4, .int (zx_b x4)), (5, .int x5)] [] h) (x1 : Int32) (x2 : Int32) (x3 : Int32) (x4 : Bool) (x5 : Int32) : zx_X B zm_Ref_wrong (zx_QM B (fun r => ((some (Value.int r) : Option Value), h))) (zs_Ref_wrong_J78 h k35 x1 x2 x3 x4 x5) 0 0 78 [(0, zx_rV (zx_BK B) 24 0), (1, .int x1), (2, .int x2), (3, .int x3), (4, .int (zx_b x4)), (5, .int x5)] [] h := by
  unfold zs_Ref_wrong_J78
  refine zx_iconst E (0 : Int32) dd_Ref_wrong_78 (by decide) ?_
  exact zj_Ref_wrong_79 E h k35 hk35 x1 x2 x3 x4 x5 false
set_option maxHeartbeats 4000000 in
set_option maxRecDepth 20000 in
theorem zj_Ref_wrong_225 {B : zx_B} (E : zx_E B zm_Ref_wrong) (h : zx_H)   : zx_X B zm_Ref_wrong (zx_QM B (fun r => ((some (Value.int r) : Option Value), h))) (zs_Ref_wrong_J225 h  ) 0 0 225 [] [] h := by
  unfold zs_Ref_wrong_J225
  refine zx_iconst E (4 : Int32) dd_Ref_wrong_225 (by decide) ?_
  refine zx_goto E 230 dd_Ref_wrong_226 rfl ?_
  exact zx_iret E rfl rfl dd_Ref_wrong_230
set_option maxHeartbeats 4000000 in
set_option maxRecDepth 20000 in
theorem zj_Ref_wrong_353 {B : zx_B} (E : zx_E B zm_Ref_wrong) (h : zx_H)   : zx_X B zm_Ref_wrong (zx_QM B (fun r => ((some (Value.int r) : Option Value), h))) (zs_Ref_wrong_J353 h  ) 0 0 353 [] [] h := by
  unfold zs_Ref_wrong_J353
  refine zx_iconst E (4 : Int32) dd_Ref_wrong_353 (by decide) ?_
  refine zx_goto E 358 dd_Ref_wrong_354 rfl ?_
  exact zx_iret E rfl rfl dd_Ref_wrong_358
set_option maxHeartbeats 4000000 in
set_option maxRecDepth 20000 in
theorem zj_Ref_wrong_357 {B : zx_B} (E : zx_E B zm_Ref_wrong) (h : zx_H)   : zx_X B zm_Ref_wrong (zx_QM B (fun r => ((some (Value.int r) : Option Value), h))) (zs_Ref_wrong_J357 h  ) 0 0 357 [] [] h := by
  unfold zs_Ref_wrong_J357
  refine zx_iconst E (0 : Int32) dd_Ref_wrong_357 (by decide) ?_
  exact zx_iret E rfl rfl dd_Ref_wrong_358
set_option maxHeartbeats 4000000 in
set_option maxRecDepth 20000 in
theorem zj_Ref_wrong_343 {B : zx_B} (E : zx_E B zm_Ref_wrong) (h : zx_H)  (x5 : Bool) (x6 : Bool) : zx_X B zm_Ref_wrong (zx_QM B (fun r => ((some (Value.int r) : Option Value), h))) (zs_Ref_wrong_J343 h  x5 x6) 0 0 343 [(5, .int (zx_b x5)), (6, .int (zx_b x6))] [] h := by
  unfold zs_Ref_wrong_J343
  refine zx_iload E 0 dd_Ref_wrong_343 rfl ?_
  refine zx_ifb_ne E (x := x5) 357 dd_Ref_wrong_345 rfl ?_ ?_
  rotate_left
  · refine zx_sub [] rfl ?_
    exact zj_Ref_wrong_357 E h
  refine zx_iload E 1 dd_Ref_wrong_348 rfl ?_
  refine zx_ifb_ne E (x := x6) 357 dd_Ref_wrong_350 rfl ?_ ?_
  · refine zx_sub [] rfl ?_
    exact zj_Ref_wrong_353 E h
  refine zx_sub [] rfl ?_
  exact zj_Ref_wrong_357 E h
set_option maxHeartbeats 4000000 in
set_option maxRecDepth 20000 in
theorem zj_Ref_wrong_330 {B : zx_B} (E : zx_E B zm_Ref_wrong) (h : zx_H)  (x3 : Int32) (x4 : Bool) (x5 : Bool) (s0 : Bool) : zx_X B zm_Ref_wrong (zx_QM B (fun r => ((some (Value.int r) : Option Value), h))) (zs_Ref_wrong_J330 h  x3 x4 x5 s0) 0 0 330 [(3, .int x3), (4, .int (zx_b x4)), (5, .int (zx_b x5))] [.int (zx_b s0)] h := by
  unfold zs_Ref_wrong_J330
  refine zx_istore E (lv1 := [(6, .int (zx_b s0)), (3, .int x3), (4, .int (zx_b x4)), (5, .int (zx_b x5))]) dd_Ref_wrong_330 (by decide) rfl ?_
  refine zx_iload_n E 1 dd_Ref_wrong_332 rfl rfl ?_
  refine zx_bipush E (6 : Int32) dd_Ref_wrong_333 (by decide) ?_
  refine zx_icmp_ne E 343 dd_Ref_wrong_335 rfl ?_ ?_
  rotate_left
  · refine zx_sub [3, 0] rfl ?_
    exact zj_Ref_wrong_343 E h x5 s0
  refine zx_iload E 2 dd_Ref_wrong_338 rfl ?_
  refine zx_ifb_ne E (x := x4) 353 dd_Ref_wrong_340 rfl ?_ ?_
  · refine zx_sub [3, 0] rfl ?_
    exact zj_Ref_wrong_343 E h x5 s0
  refine zx_sub [] rfl ?_
  exact zj_Ref_wrong_353 E h
set_option maxHeartbeats 4000000 in
set_option maxRecDepth 20000 in
theorem zj_Ref_wrong_325 {B : zx_B} (E : zx_E B zm_Ref_wrong) (h : zx_H)  (x3 : Int32) (x4 : Bool) (x5 : Bool) : zx_X B zm_Ref_wrong (zx_QM B (fun r => ((some (Value.int r) : Option Value), h))) (zs_Ref_wrong_J325 h  x3 x4 x5) 0 0 325 [(3, .int x3), (4, .int (zx_b x4)), (5, .int (zx_b x5))] [] h := by
  unfold zs_Ref_wrong_J325
  refine zx_iconst E (1 : Int32) dd_Ref_wrong_325 (by decide) ?_
  refine zx_goto E 330 dd_Ref_wrong_326 rfl ?_
  exact zj_Ref_wrong_330 E h x3 x4 x5 true
set_option maxHeartbeats 4000000 in
set_option maxRecDepth 20000 in
theorem zj_Ref_wrong_329 {B : zx_B} (E : zx_E B zm_Ref_wrong) (h : zx_H)  (x3 : Int32) (x4 : Bool) (x5 : Bool) : zx_X B zm_Ref_wrong (zx_QM B (fun r => ((some (Value.int r) : Option Value), h))) (zs_Ref_wrong_J329 h  x3 x4 x5) 0 0 329 [(3, .int x3), (4, .int (zx_b x4)), (5, .int (zx_b x5))] [] h := by
  unfold zs_Ref_wrong_J329
  refine zx_iconst E (0 : Int32) dd_Ref_wrong_329 (by decide) ?_
  exact zj_Ref_wrong_330 E h x3 x4 x5 false
set_option maxHeartbeats 4000000 in
set_option maxRecDepth 20000 in
theorem zj_Ref_wrong_291 {B : zx_B} (E : zx_E B zm_Ref_wrong) (h : zx_H)  (x2 : Int32) (x3 : Int32) (x4 : Bool) (s0 : Bool) : zx_X B zm_Ref_wrong (zx_QM B (fun r => ((some (Value.int r) : Option Value), h))) (zs_Ref_wrong_J291 h  x2 x3 x4 s0) 0 0 291 [(0, zx_rV (zx_BK B) 24 0), (2, .int x2), (3, .int x3), (4, .int (zx_b x4))] [.int (zx_b s0)] h := by
  unfold zs_Ref_wrong_J291
  refine zx_istore E (lv1 := [(5, .int (zx_b s0)), (0, zx_rV (zx_BK B) 24 0), (2, .int x2), (3, .int x3), (4, .int (zx_b x4))]) dd_Ref_wrong_291 (by decide) rfl ?_
  refine zx_aload_n E 1 dd_Ref_wrong_293 rfl rfl ?_
  refine zx_getR E 35 0 zd_Ref_whats zg_24 Nat.zero_lt_one (zr_Ref_whats _) zw_1121 dd_Ref_wrong_294 ?_
  refine zx_iload_n E 2 dd_Ref_wrong_297 rfl rfl ?_
  refine zx_lald E zg_35 Nat.zero_lt_one dd_Ref_wrong_298 ?_
  refine zx_ldc2 E (-1 : Int64) zw_1322 dd_Ref_wrong_299 ?_
  refine zx_lcmp_eq E 325 dd_Ref_wrong_302 dd_Ref_wrong_303 rfl ?_ ?_
  rotate_left
  · refine zx_sub [3, 4, 0] rfl ?_
    exact zj_Ref_wrong_325 E h x3 x4 s0
  refine zx_iload_n E 3 dd_Ref_wrong_306 rfl rfl ?_
  refine zx_bipush E (6 : Int32) dd_Ref_wrong_307 (by decide) ?_
  refine zx_icmp_ne E 329 dd_Ref_wrong_309 rfl ?_ ?_
  rotate_left
  · refine zx_sub [3, 4, 0] rfl ?_
    exact zj_Ref_wrong_329 E h x3 x4 s0
  refine zx_aload_n E 1 dd_Ref_wrong_312 rfl rfl ?_
  refine zx_getR E 35 0 zd_Ref_whats zg_24 Nat.zero_lt_one (zr_Ref_whats _) zw_1121 dd_Ref_wrong_313 ?_
  refine zx_iload_n E 2 dd_Ref_wrong_316 rfl rfl ?_
  refine zx_lald E zg_35 Nat.zero_lt_one dd_Ref_wrong_317 ?_
  refine zx_ldc2 E (-2 : Int64) zw_1323 dd_Ref_wrong_318 ?_
  refine zx_lcmp_ne E 329 dd_Ref_wrong_321 dd_Ref_wrong_322 rfl ?_ ?_
  · refine zx_sub [3, 4, 0] rfl ?_
    exact zj_Ref_wrong_325 E h x3 x4 s0
  refine zx_sub [3, 4, 0] rfl ?_
  exact zj_Ref_wrong_329 E h x3 x4 s0
set_option maxHeartbeats 4000000 in
set_option maxRecDepth 20000 in
theorem zj_Ref_wrong_290 {B : zx_B} (E : zx_E B zm_Ref_wrong) (h : zx_H)  (x2 : Int32) (x3 : Int32) (x4 : Bool) : zx_X B zm_Ref_wrong (zx_QM B (fun r => ((some (Value.int r) : Option Value), h))) (zs_Ref_wrong_J290 h  x2 x3 x4) 0 0 290 [(0, zx_rV (zx_BK B) 24 0), (2, .int x2), (3, .int x3), (4, .int (zx_b x4))] [] h := by
  unfold zs_Ref_wrong_J290
  refine zx_iconst E (0 : Int32) dd_Ref_wrong_290 (by decide) ?_
  exact zj_Ref_wrong_291 E h x2 x3 x4 false
set_option maxHeartbeats 4000000 in
set_option maxRecDepth 20000 in
theorem zj_Ref_wrong_242 {B : zx_B} (E : zx_E B zm_Ref_wrong) (h : zx_H)  (x1 : Int32) (x2 : Int32) (x3 : Int32) (x4 : Bool) : zx_X B zm_Ref_wrong (zx_QM B (fun r => ((some (Value.int r) : Option Value), h))) (zs_Ref_wrong_J242 h  x1 x2 x3 x4) 0 0 242 [(0, zx_rV (zx_BK B) 24 0), (1, .int x1), (2, .int x2), (3, .int x3), (4, .int (zx_b x4))] [] h := by
  unfold zs_Ref_wrong_J242
  refine zx_aload_n E 0 dd_Ref_wrong_242 rfl rfl ?_
  refine zx_getR E 35 0 zd_Ref_whats zg_24 Nat.zero_lt_one (zr_Ref_whats _) zw_1121 dd_Ref_wrong_243 ?_
  refine zx_iload_n E 2 dd_Ref_wrong_246 rfl rfl ?_
  refine zx_lald E zg_35 Nat.zero_lt_one dd_Ref_wrong_247 ?_
  refine zx_lconst E (0 : Int64) dd_Ref_wrong_248 rfl ?_
  refine zx_lcmp_lt E 290 dd_Ref_wrong_249 dd_Ref_wrong_250 rfl ?_ ?_
  rotate_left
  · refine zx_sub [0, 2, 3, 4] rfl ?_
    exact zj_Ref_wrong_290 E h x2 x3 x4
  refine zx_aload_n E 0 dd_Ref_wrong_253 rfl rfl ?_
  refine zx_getR E 35 0 zd_Ref_whats zg_24 Nat.zero_lt_one (zr_Ref_whats _) zw_1121 dd_Ref_wrong_254 ?_
  refine zx_iload_n E 2 dd_Ref_wrong_257 rfl rfl ?_
  refine zx_lald E zg_35 Nat.zero_lt_one dd_Ref_wrong_258 ?_
  refine zx_ldc2 E (64 : Int64) zw_1321 dd_Ref_wrong_259 ?_
  refine zx_lcmp_ge E 290 dd_Ref_wrong_262 dd_Ref_wrong_263 rfl ?_ ?_
  rotate_left
  · refine zx_sub [0, 2, 3, 4] rfl ?_
    exact zj_Ref_wrong_290 E h x2 x3 x4
  refine zx_aload_n E 0 dd_Ref_wrong_266 rfl rfl ?_
  refine zx_aload_n E 0 dd_Ref_wrong_267 rfl rfl ?_
  refine zx_getR E 31 0 zd_Ref_methodTo zg_24 Nat.zero_lt_one (zr_Ref_methodTo _) zw_1117 dd_Ref_wrong_268 ?_
  refine zx_iload_n E 1 dd_Ref_wrong_271 rfl rfl ?_
  refine zx_iald E zg_31 Nat.zero_lt_one dd_Ref_wrong_272 ?_
  refine zx_aload_n E 0 dd_Ref_wrong_273 rfl rfl ?_
  refine zx_getR E 35 0 zd_Ref_whats zg_24 Nat.zero_lt_one (zr_Ref_whats _) zw_1121 dd_Ref_wrong_274 ?_
  refine zx_iload_n E 2 dd_Ref_wrong_277 rfl rfl ?_
  refine zx_lald E zg_35 Nat.zero_lt_one dd_Ref_wrong_278 ?_
  refine zx_l2i E dd_Ref_wrong_279 ?_
  refine zx_callV_i (T := zx_TRef) E [.int (h.1 31 0 x1.toNatClampNeg), .int ((h.2 35 0 x2.toNatClampNeg).toInt32)] (fun rZ eZ => zt_Ref_placeOf _ _ (h.1 31 0 x1.toNatClampNeg) ((h.2 35 0 x2.toNatClampNeg).toInt32) h _ eZ) zg_24 Nat.zero_lt_one rfl zc_Ref_129 ⟨by decide, by decide⟩ (Nat.zero_le _) (Nat.zero_le _) rfl rfl (Nat.le_of_ble_eq_true rfl) dd_Ref_wrong_280 (fun r1 => ?_)
  refine zx_if_lt E 290 dd_Ref_wrong_283 rfl ?_ ?_
  rotate_left
  · refine zx_sub [0, 2, 3, 4] rfl ?_
    exact zj_Ref_wrong_290 E h x2 x3 x4
  refine zx_iconst E (1 : Int32) dd_Ref_wrong_286 (by decide) ?_
  refine zx_goto E 291 dd_Ref_wrong_287 rfl ?_
  refine zx_sub [0, 2, 3, 4] rfl ?_
  exact zj_Ref_wrong_291 E h x2 x3 x4 true
set_option maxHeartbeats 4000000 in
set_option maxRecDepth 20000 in
theorem zj_Ref_wrong_374 {B : zx_B} (E : zx_E B zm_Ref_wrong) (h : zx_H)   : zx_X B zm_Ref_wrong (zx_QM B (fun r => ((some (Value.int r) : Option Value), h))) (zs_Ref_wrong_J374 h  ) 0 0 374 [] [] h := by
  unfold zs_Ref_wrong_J374
  refine zx_iconst E (0 : Int32) dd_Ref_wrong_374 (by decide) ?_
  exact zx_iret E rfl rfl dd_Ref_wrong_375
set_option maxHeartbeats 4000000 in
set_option maxRecDepth 20000 in
theorem zj_Ref_wrong_170 {B : zx_B} (E : zx_E B zm_Ref_wrong) (h : zx_H)  (x1 : Int32) (x2 : Int32) (x3 : Int32) (x4 : Bool) : zx_X B zm_Ref_wrong (zx_QM B (fun r => ((some (Value.int r) : Option Value), h))) (zs_Ref_wrong_J170 h  x1 x2 x3 x4) 0 0 170 [(0, zx_rV (zx_BK B) 24 0), (1, .int x1), (2, .int x2), (3, .int x3), (4, .int (zx_b x4))] [] h := by
  unfold zs_Ref_wrong_J170
  refine zx_iload_n E 3 dd_Ref_wrong_170 rfl rfl ?_
  refine zx_if_ne E 194 dd_Ref_wrong_171 rfl ?_ ?_
  · refine zx_aload_n E 0 dd_Ref_wrong_174 rfl rfl ?_
    refine zx_iload_n E 1 dd_Ref_wrong_175 rfl rfl ?_
    refine zx_aload_n E 0 dd_Ref_wrong_176 rfl rfl ?_
    refine zx_getR E 35 0 zd_Ref_whats zg_24 Nat.zero_lt_one (zr_Ref_whats _) zw_1121 dd_Ref_wrong_177 ?_
    refine zx_iload_n E 2 dd_Ref_wrong_180 rfl rfl ?_
    refine zx_lald E zg_35 Nat.zero_lt_one dd_Ref_wrong_181 ?_
    refine zx_callV_i (T := zx_TRef) E [.int x1, .long (h.2 35 0 x2.toNatClampNeg)] (fun rZ eZ => zt_Ref_endOf _ _ x1 (h.2 35 0 x2.toNatClampNeg) h _ eZ) zg_24 Nat.zero_lt_one rfl zc_Ref_186 ⟨by decide, by decide⟩ (Nat.zero_le _) (Nat.zero_le _) rfl rfl (Nat.le_of_ble_eq_true rfl) dd_Ref_wrong_182 (fun r1 => ?_)
    refine zx_if_ge E 192 dd_Ref_wrong_185 rfl ?_ ?_
    rotate_left
    · refine zx_iconst E (0 : Int32) dd_Ref_wrong_192 (by decide) ?_
      exact zx_iret E rfl rfl dd_Ref_wrong_193
    refine zx_iconst E (4 : Int32) dd_Ref_wrong_188 (by decide) ?_
    refine zx_goto E 193 dd_Ref_wrong_189 rfl ?_
    exact zx_iret E rfl rfl dd_Ref_wrong_193
  refine zx_iload_n E 3 dd_Ref_wrong_194 rfl rfl ?_
  refine zx_iconst E (4 : Int32) dd_Ref_wrong_195 (by decide) ?_
  refine zx_icmp_ne E 231 dd_Ref_wrong_196 rfl ?_ ?_
  · refine zx_aload_n E 0 dd_Ref_wrong_199 rfl rfl ?_
    refine zx_getR E 35 0 zd_Ref_whats zg_24 Nat.zero_lt_one (zr_Ref_whats _) zw_1121 dd_Ref_wrong_200 ?_
    refine zx_iload_n E 2 dd_Ref_wrong_203 rfl rfl ?_
    refine zx_lald E zg_35 Nat.zero_lt_one dd_Ref_wrong_204 ?_
    refine zx_lconst E (0 : Int64) dd_Ref_wrong_205 rfl ?_
    refine zx_lcmp_lt E 225 dd_Ref_wrong_206 dd_Ref_wrong_207 rfl ?_ ?_
    rotate_left
    · refine zx_sub [] rfl ?_
      exact zj_Ref_wrong_225 E h
    refine zx_aload_n E 0 dd_Ref_wrong_210 rfl rfl ?_
    refine zx_getR E 35 0 zd_Ref_whats zg_24 Nat.zero_lt_one (zr_Ref_whats _) zw_1121 dd_Ref_wrong_211 ?_
    refine zx_iload_n E 2 dd_Ref_wrong_214 rfl rfl ?_
    refine zx_lald E zg_35 Nat.zero_lt_one dd_Ref_wrong_215 ?_
    refine zx_aload_n E 0 dd_Ref_wrong_216 rfl rfl ?_
    refine zx_getI E zd_Ref_functions zg_24 Nat.zero_lt_one zw_1122 dd_Ref_wrong_217 ?_
    refine zx_i2l E dd_Ref_wrong_220 ?_
    refine zx_lcmp_lt E 229 dd_Ref_wrong_221 dd_Ref_wrong_222 rfl ?_ ?_
    · refine zx_sub [] rfl ?_
      exact zj_Ref_wrong_225 E h
    refine zx_iconst E (0 : Int32) dd_Ref_wrong_229 (by decide) ?_
    exact zx_iret E rfl rfl dd_Ref_wrong_230
  refine zx_iload_n E 3 dd_Ref_wrong_231 rfl rfl ?_
  refine zx_iconst E (5 : Int32) dd_Ref_wrong_232 (by decide) ?_
  refine zx_icmp_eq E 242 dd_Ref_wrong_233 rfl ?_ ?_
  rotate_left
  · exact zj_Ref_wrong_242 E h x1 x2 x3 x4
  refine zx_iload_n E 3 dd_Ref_wrong_236 rfl rfl ?_
  refine zx_bipush E (6 : Int32) dd_Ref_wrong_237 (by decide) ?_
  refine zx_icmp_ne E 359 dd_Ref_wrong_239 rfl ?_ ?_
  · exact zj_Ref_wrong_242 E h x1 x2 x3 x4
  refine zx_iload_n E 3 dd_Ref_wrong_359 rfl rfl ?_
  refine zx_bipush E (8 : Int32) dd_Ref_wrong_360 (by decide) ?_
  refine zx_icmp_ne E 374 dd_Ref_wrong_362 rfl ?_ ?_
  rotate_left
  · refine zx_sub [] rfl ?_
    exact zj_Ref_wrong_374 E h
  refine zx_iload E 4 dd_Ref_wrong_365 rfl ?_
  refine zx_ifb_ne E (x := x4) 374 dd_Ref_wrong_367 rfl ?_ ?_
  rotate_left
  · refine zx_sub [] rfl ?_
    exact zj_Ref_wrong_374 E h
  refine zx_iconst E (4 : Int32) dd_Ref_wrong_370 (by decide) ?_
  refine zx_goto E 375 dd_Ref_wrong_371 rfl ?_
  exact zx_iret E rfl rfl dd_Ref_wrong_375
set_option maxHeartbeats 4000000 in
set_option maxRecDepth 20000 in
theorem zj_Ref_wrong_139 {B : zx_B} (E : zx_E B zm_Ref_wrong) (h : zx_H)  (x1 : Int32) (x2 : Int32) (x3 : Int32) (x4 : Bool) : zx_X B zm_Ref_wrong (zx_QM B (fun r => ((some (Value.int r) : Option Value), h))) (zs_Ref_wrong_J139 h  x1 x2 x3 x4) 0 0 139 [(0, zx_rV (zx_BK B) 24 0), (1, .int x1), (2, .int x2), (3, .int x3), (4, .int (zx_b x4))] [] h := by
  unfold zs_Ref_wrong_J139
  refine zx_iload_n E 3 dd_Ref_wrong_139 rfl rfl ?_
  refine zx_iconst E (5 : Int32) dd_Ref_wrong_140 (by decide) ?_
  refine zx_icmp_ne E 170 dd_Ref_wrong_141 rfl ?_ ?_
  rotate_left
  · exact zj_Ref_wrong_170 E h x1 x2 x3 x4
  refine zx_iload E 4 dd_Ref_wrong_144 rfl ?_
  refine zx_ifb_ne E (x := x4) 168 dd_Ref_wrong_146 rfl ?_ ?_
  rotate_left
  · refine zx_iconst E (3 : Int32) dd_Ref_wrong_168 (by decide) ?_
    exact zx_iret E rfl rfl dd_Ref_wrong_169
  refine zx_aload_n E 0 dd_Ref_wrong_149 rfl rfl ?_
  refine zx_aload_n E 0 dd_Ref_wrong_150 rfl rfl ?_
  refine zx_getR E 30 0 zd_Ref_methodFrom zg_24 Nat.zero_lt_one (zr_Ref_methodFrom _) zw_1116 dd_Ref_wrong_151 ?_
  refine zx_iload_n E 1 dd_Ref_wrong_154 rfl rfl ?_
  refine zx_iald E zg_30 Nat.zero_lt_one dd_Ref_wrong_155 ?_
  refine zx_aload_n E 0 dd_Ref_wrong_156 rfl rfl ?_
  refine zx_getR E 34 0 zd_Ref_targets zg_24 Nat.zero_lt_one (zr_Ref_targets _) zw_1120 dd_Ref_wrong_157 ?_
  refine zx_iload_n E 2 dd_Ref_wrong_160 rfl rfl ?_
  refine zx_iald E zg_34 Nat.zero_lt_one dd_Ref_wrong_161 ?_
  refine zx_callV_i (T := zx_TRef) E [.int (h.1 30 0 x1.toNatClampNeg), .int (h.1 34 0 x2.toNatClampNeg)] (fun rZ eZ => zt_Ref_placeOf _ _ (h.1 30 0 x1.toNatClampNeg) (h.1 34 0 x2.toNatClampNeg) h _ eZ) zg_24 Nat.zero_lt_one rfl zc_Ref_129 ⟨by decide, by decide⟩ (Nat.zero_le _) (Nat.zero_le _) rfl rfl (Nat.le_of_ble_eq_true rfl) dd_Ref_wrong_162 (fun r1 => ?_)
  refine zx_if_ge E 170 dd_Ref_wrong_165 rfl ?_ ?_
  rotate_left
  · exact zj_Ref_wrong_170 E h x1 x2 x3 x4
  refine zx_iconst E (3 : Int32) dd_Ref_wrong_168 (by decide) ?_
  exact zx_iret E rfl rfl dd_Ref_wrong_169
set_option maxHeartbeats 4000000 in
set_option maxRecDepth 20000 in
theorem zj_Ref_wrong_110 {B : zx_B} (E : zx_E B zm_Ref_wrong) (h : zx_H)  (x1 : Int32) (x2 : Int32) (x3 : Int32) (x4 : Bool) : zx_X B zm_Ref_wrong (zx_QM B (fun r => ((some (Value.int r) : Option Value), h))) (zs_Ref_wrong_J110 h  x1 x2 x3 x4) 0 0 110 [(0, zx_rV (zx_BK B) 24 0), (1, .int x1), (2, .int x2), (3, .int x3), (4, .int (zx_b x4))] [] h := by
  unfold zs_Ref_wrong_J110
  refine zx_iload_n E 3 dd_Ref_wrong_110 rfl rfl ?_
  refine zx_iconst E (5 : Int32) dd_Ref_wrong_111 (by decide) ?_
  refine zx_icmp_ge E 139 dd_Ref_wrong_112 rfl ?_ ?_
  rotate_left
  · exact zj_Ref_wrong_139 E h x1 x2 x3 x4
  refine zx_iload E 4 dd_Ref_wrong_115 rfl ?_
  refine zx_ifb_eq E (x := x4) 168 dd_Ref_wrong_117 rfl ?_ ?_
  rotate_left
  · refine zx_iconst E (3 : Int32) dd_Ref_wrong_168 (by decide) ?_
    exact zx_iret E rfl rfl dd_Ref_wrong_169
  refine zx_aload_n E 0 dd_Ref_wrong_120 rfl rfl ?_
  refine zx_aload_n E 0 dd_Ref_wrong_121 rfl rfl ?_
  refine zx_getR E 31 0 zd_Ref_methodTo zg_24 Nat.zero_lt_one (zr_Ref_methodTo _) zw_1117 dd_Ref_wrong_122 ?_
  refine zx_iload_n E 1 dd_Ref_wrong_125 rfl rfl ?_
  refine zx_iald E zg_31 Nat.zero_lt_one dd_Ref_wrong_126 ?_
  refine zx_aload_n E 0 dd_Ref_wrong_127 rfl rfl ?_
  refine zx_getR E 34 0 zd_Ref_targets zg_24 Nat.zero_lt_one (zr_Ref_targets _) zw_1120 dd_Ref_wrong_128 ?_
  refine zx_iload_n E 2 dd_Ref_wrong_131 rfl rfl ?_
  refine zx_iald E zg_34 Nat.zero_lt_one dd_Ref_wrong_132 ?_
  refine zx_callV_i (T := zx_TRef) E [.int (h.1 31 0 x1.toNatClampNeg), .int (h.1 34 0 x2.toNatClampNeg)] (fun rZ eZ => zt_Ref_placeOf _ _ (h.1 31 0 x1.toNatClampNeg) (h.1 34 0 x2.toNatClampNeg) h _ eZ) zg_24 Nat.zero_lt_one rfl zc_Ref_129 ⟨by decide, by decide⟩ (Nat.zero_le _) (Nat.zero_le _) rfl rfl (Nat.le_of_ble_eq_true rfl) dd_Ref_wrong_133 (fun r1 => ?_)
  refine zx_if_lt E 168 dd_Ref_wrong_136 rfl ?_ ?_
  · exact zj_Ref_wrong_139 E h x1 x2 x3 x4
  refine zx_iconst E (3 : Int32) dd_Ref_wrong_168 (by decide) ?_
  exact zx_iret E rfl rfl dd_Ref_wrong_169
set_option maxHeartbeats 4000000 in
set_option maxRecDepth 20000 in
theorem zb_Ref_wrong_35 {B : zx_B} (E : zx_E B zm_Ref_wrong) (h : zx_H)  (k35 : (Int32 → Int32 → Int32 → Bool → Int32 → Option Int32)) (hk35 : ∀ (x1 : Int32) (x2 : Int32) (x3 : Int32) (x4 : Bool) (x5 : Int32), zx_X B zm_Ref_wrong (zx_QM B (fun r => ((some (Value.int r) : Option Value), h))) (k35 x1 x2 x3 x4 x5) 0 0 35 [(0, zx_rV (zx_BK B) 24 0), (1, .int x1), (2, .int x2), (3, .int x3), (4, .int (zx_b x4)), (5, .int x5)] [] h) (x1 : Int32) (x2 : Int32) (x3 : Int32) (x4 : Bool) (x5 : Int32) : zx_X B zm_Ref_wrong (zx_QM B (fun r => ((some (Value.int r) : Option Value), h))) (zs_Ref_wrong_L35_body h  k35 x1 x2 x3 x4 x5) 0 0 35 [(0, zx_rV (zx_BK B) 24 0), (1, .int x1), (2, .int x2), (3, .int x3), (4, .int (zx_b x4)), (5, .int x5)] [] h := by
  unfold zs_Ref_wrong_L35_body
  refine zx_iload E 5 dd_Ref_wrong_35 rfl ?_
  refine zx_iload_n E 2 dd_Ref_wrong_37 rfl rfl ?_
  refine zx_icmp_ge E 110 dd_Ref_wrong_38 rfl ?_ ?_
  rotate_left
  · refine zx_sub [0, 1, 2, 3, 4] rfl ?_
    exact zj_Ref_wrong_110 E h x1 x2 x3 x4
  refine zx_iload_n E 3 dd_Ref_wrong_41 rfl rfl ?_
  refine zx_bipush E (6 : Int32) dd_Ref_wrong_42 (by decide) ?_
  refine zx_icmp_ge E 110 dd_Ref_wrong_44 rfl ?_ ?_
  rotate_left
  · refine zx_sub [0, 1, 2, 3, 4] rfl ?_
    exact zj_Ref_wrong_110 E h x1 x2 x3 x4
  refine zx_aload_n E 0 dd_Ref_wrong_47 rfl rfl ?_
  refine zx_getR E 33 0 zd_Ref_kinds zg_24 Nat.zero_lt_one (zr_Ref_kinds _) zw_1119 dd_Ref_wrong_48 ?_
  refine zx_iload E 5 dd_Ref_wrong_51 rfl ?_
  refine zx_iald E zg_33 Nat.zero_lt_one dd_Ref_wrong_53 ?_
  refine zx_iload_n E 3 dd_Ref_wrong_54 rfl rfl ?_
  refine zx_icmp_eq E 74 dd_Ref_wrong_55 rfl ?_ ?_
  rotate_left
  · exact zj_Ref_wrong_74 E h k35 hk35 x1 x2 x3 x4 x5
  refine zx_aload_n E 0 dd_Ref_wrong_58 rfl rfl ?_
  refine zx_getR E 33 0 zd_Ref_kinds zg_24 Nat.zero_lt_one (zr_Ref_kinds _) zw_1119 dd_Ref_wrong_59 ?_
  refine zx_iload E 5 dd_Ref_wrong_62 rfl ?_
  refine zx_iald E zg_33 Nat.zero_lt_one dd_Ref_wrong_64 ?_
  refine zx_iconst E (3 : Int32) dd_Ref_wrong_65 (by decide) ?_
  refine zx_icmp_ge E 78 dd_Ref_wrong_66 rfl ?_ ?_
  rotate_left
  · exact zj_Ref_wrong_78 E h k35 hk35 x1 x2 x3 x4 x5
  refine zx_iload_n E 3 dd_Ref_wrong_69 rfl rfl ?_
  refine zx_iconst E (3 : Int32) dd_Ref_wrong_70 (by decide) ?_
  refine zx_icmp_ge E 78 dd_Ref_wrong_71 rfl ?_ ?_
  · exact zj_Ref_wrong_74 E h k35 hk35 x1 x2 x3 x4 x5
  exact zj_Ref_wrong_78 E h k35 hk35 x1 x2 x3 x4 x5
theorem zj_Ref_wrong_35 {B : zx_B} (E : zx_E B zm_Ref_wrong) (h : zx_H)  : ∀ (x1 : Int32) (x2 : Int32) (x3 : Int32) (x4 : Bool) (x5 : Int32), zx_X B zm_Ref_wrong (zx_QM B (fun r => ((some (Value.int r) : Option Value), h))) (zs_Ref_wrong_L35 h  x1 x2 x3 x4 x5) 0 0 35 [(0, zx_rV (zx_BK B) 24 0), (1, .int x1), (2, .int x2), (3, .int x3), (4, .int (zx_b x4)), (5, .int x5)] [] h := by
  unfold zs_Ref_wrong_L35
  generalize zx_fuel = n
  induction n with
  | zero => intros; exact zx_non
  | succ n ih => intro x1 x2 x3 x4 x5; exact zb_Ref_wrong_35 E h  _ ih x1 x2 x3 x4 x5
set_option maxHeartbeats 4000000 in
set_option maxRecDepth 20000 in
theorem zj_Ref_wrong_27 {B : zx_B} (E : zx_E B zm_Ref_wrong) (h : zx_H)  (x1 : Int32) (x2 : Int32) (x3 : Int32) (s0 : Bool) : zx_X B zm_Ref_wrong (zx_QM B (fun r => ((some (Value.int r) : Option Value), h))) (zs_Ref_wrong_J27 h  x1 x2 x3 s0) 0 0 27 [(0, zx_rV (zx_BK B) 24 0), (1, .int x1), (2, .int x2), (3, .int x3)] [.int (zx_b s0)] h := by
  unfold zs_Ref_wrong_J27
  refine zx_istore E (lv1 := [(4, .int (zx_b s0)), (0, zx_rV (zx_BK B) 24 0), (1, .int x1), (2, .int x2), (3, .int x3)]) dd_Ref_wrong_27 (by decide) rfl ?_
  refine zx_bipush E (24 : Int32) dd_Ref_wrong_29 (by decide) ?_
  refine zx_iload_n E 2 dd_Ref_wrong_31 rfl rfl ?_
  refine zx_imul E dd_Ref_wrong_32 ?_
  refine zx_leti (fun y1 => ?_)
  refine zx_istore E (lv1 := [(5, .int y1), (4, .int (zx_b s0)), (0, zx_rV (zx_BK B) 24 0), (1, .int x1), (2, .int x2), (3, .int x3)]) dd_Ref_wrong_33 (by decide) rfl ?_
  refine zx_sub [2, 3, 4, 5, 1, 0] rfl ?_
  exact zj_Ref_wrong_35 E h x1 x2 x3 s0 y1
set_option maxHeartbeats 4000000 in
set_option maxRecDepth 20000 in
theorem zt_Ref_wrong (l : Launch) (K : zx_K) (a1 : Int32) (a2 : Int32) (h : zx_H) (r : Int32) (hf : zs_Ref_wrong a1 a2 h = some r) : zx_MR l zm_Ref_wrong zy_Ref_wrong K [zx_rV K 24 0, .int a1, .int a2] h (some (.int r)) h := by
  refine zx_ofM (M := zm_Ref_wrong) (y := zy_Ref_wrong) (r := r) (as := [zx_rV K 24 0, .int a1, .int a2]) (ρ := (fun r => ((some (Value.int r) : Option Value), h))) (by decide) rfl hf (Nat.le_of_ble_eq_true rfl) ?_
  intro B hl hK E
  subst hK
  subst hl
  show zx_X B zm_Ref_wrong _ _ 0 0 0 [(0, zx_rV (zx_BK B) 24 0), (1, .int a1), (2, .int a2)] [] h
  unfold zs_Ref_wrong
  refine zx_aload_n E 0 dd_Ref_wrong_0 rfl rfl ?_
  refine zx_getR E 33 0 zd_Ref_kinds zg_24 Nat.zero_lt_one (zr_Ref_kinds _) zw_1119 dd_Ref_wrong_1 ?_
  refine zx_iload_n E 2 dd_Ref_wrong_4 rfl rfl ?_
  refine zx_iald E zg_33 Nat.zero_lt_one dd_Ref_wrong_5 ?_
  refine zx_leti (fun y1 => ?_)
  refine zx_istore_n E (lv1 := [(3, .int y1), (0, zx_rV (zx_BK B) 24 0), (1, .int a1), (2, .int a2)]) dd_Ref_wrong_6 rfl (by decide) rfl ?_
  refine zx_aload_n E 1 dd_Ref_wrong_7 rfl rfl ?_
  refine zx_getR E 25 0 zd_Ref_sort zg_24 Nat.zero_lt_one (zr_Ref_sort _) zw_1110 dd_Ref_wrong_8 ?_
  refine zx_aload_n E 1 dd_Ref_wrong_11 rfl rfl ?_
  refine zx_getR E 31 0 zd_Ref_methodTo zg_24 Nat.zero_lt_one (zr_Ref_methodTo _) zw_1117 dd_Ref_wrong_12 ?_
  refine zx_iload_n E 2 dd_Ref_wrong_15 rfl rfl ?_
  refine zx_iald E zg_31 Nat.zero_lt_one dd_Ref_wrong_16 ?_
  refine zx_iald E zg_25 Nat.zero_lt_one dd_Ref_wrong_17 ?_
  refine zx_iconst E (4 : Int32) dd_Ref_wrong_18 (by decide) ?_
  refine zx_icmp_ne E 26 dd_Ref_wrong_19 rfl ?_ ?_
  rotate_left
  · refine zx_iconst E (0 : Int32) dd_Ref_wrong_26 (by decide) ?_
    refine zx_sub [1, 2, 3, 0] rfl ?_
    exact zj_Ref_wrong_27 E h a1 a2 y1 false
  refine zx_iconst E (1 : Int32) dd_Ref_wrong_22 (by decide) ?_
  refine zx_goto E 27 dd_Ref_wrong_23 rfl ?_
  refine zx_sub [1, 2, 3, 0] rfl ?_
  exact zj_Ref_wrong_27 E h a1 a2 y1 true
set_option maxHeartbeats 4000000 in
set_option maxRecDepth 20000 in
theorem zt_Ref_wrongWay (l : Launch) (K : zx_K) (a0 : Int32) (h : zx_H) (r : Int32) (hf : zs_Ref_wrongWay a0 h = some r) : zx_MR l zm_Ref_wrongWay zy_Ref_wrongWay K [.int a0] h (some (.int r)) h := by
  refine zx_ofM (M := zm_Ref_wrongWay) (y := zy_Ref_wrongWay) (r := r) (as := [.int a0]) (ρ := (fun r => ((some (Value.int r) : Option Value), h))) (by decide) rfl hf (Nat.le_of_ble_eq_true rfl) ?_
  intro B hl hK E
  subst hK
  subst hl
  show zx_X B zm_Ref_wrongWay _ _ 0 0 0 [(0, .int a0)] [] h
  unfold zs_Ref_wrongWay
  refine zx_iload_n E 0 dd_Ref_wrongWay_0 rfl rfl ?_
  refine zx_iconst E (-1 : Int32) dd_Ref_wrongWay_1 (by decide) ?_
  refine zx_icmp_ne E 10 dd_Ref_wrongWay_2 rfl ?_ ?_
  · refine zx_bipush E (6 : Int32) dd_Ref_wrongWay_5 (by decide) ?_
    refine zx_goto E 22 dd_Ref_wrongWay_7 rfl ?_
    exact zx_iret E rfl rfl dd_Ref_wrongWay_22
  refine zx_iload_n E 0 dd_Ref_wrongWay_10 rfl rfl ?_
  refine zx_bipush E (-2 : Int32) dd_Ref_wrongWay_11 (by decide) ?_
  refine zx_icmp_ne E 21 dd_Ref_wrongWay_13 rfl ?_ ?_
  rotate_left
  · refine zx_iconst E (0 : Int32) dd_Ref_wrongWay_21 (by decide) ?_
    exact zx_iret E rfl rfl dd_Ref_wrongWay_22
  refine zx_bipush E (7 : Int32) dd_Ref_wrongWay_16 (by decide) ?_
  refine zx_goto E 22 dd_Ref_wrongWay_18 rfl ?_
  exact zx_iret E rfl rfl dd_Ref_wrongWay_22
set_option maxHeartbeats 4000000 in
set_option maxRecDepth 20000 in
theorem zj_Ref_wrongProperty_188 {B : zx_B} (E : zx_E B zm_Ref_wrongProperty) (h : zx_H)  (x10 : Int32) : zx_X B zm_Ref_wrongProperty (zx_QM B (fun r => ((some (Value.int r) : Option Value), h))) (zs_Ref_wrongProperty_J188 h  x10) 0 0 188 [(10, .int x10)] [] h := by
  unfold zs_Ref_wrongProperty_J188
  refine zx_iload E 0 dd_Ref_wrongProperty_188 rfl ?_
  refine zx_goto E 203 dd_Ref_wrongProperty_190 rfl ?_
  exact zx_iret E rfl rfl dd_Ref_wrongProperty_203
set_option maxHeartbeats 4000000 in
set_option maxRecDepth 20000 in
theorem zj_Ref_wrongProperty_171 {B : zx_B} (E : zx_E B zm_Ref_wrongProperty) (h : zx_H)  (x1 : Int32) (x3 : Int32) (x4 : Int32) (s0 : Int32) : zx_X B zm_Ref_wrongProperty (zx_QM B (fun r => ((some (Value.int r) : Option Value), h))) (zs_Ref_wrongProperty_J171 h  x1 x3 x4 s0) 0 0 171 [(0, zx_rV (zx_BK B) 24 0), (1, .int x1), (3, .int x3), (4, .int x4)] [.int s0] h := by
  unfold zs_Ref_wrongProperty_J171
  refine zx_istore E (lv1 := [(10, .int s0), (0, zx_rV (zx_BK B) 24 0), (1, .int x1), (3, .int x3), (4, .int x4)]) dd_Ref_wrongProperty_171 (by decide) rfl ?_
  refine zx_iload E 0 dd_Ref_wrongProperty_173 rfl ?_
  refine zx_if_gt E 188 dd_Ref_wrongProperty_175 rfl ?_ ?_
  rotate_left
  · refine zx_sub [0] rfl ?_
    exact zj_Ref_wrongProperty_188 E h s0
  refine zx_aload_n E 1 dd_Ref_wrongProperty_178 rfl rfl ?_
  refine zx_iload_n E 2 dd_Ref_wrongProperty_179 rfl rfl ?_
  refine zx_iconst E (3 : Int32) dd_Ref_wrongProperty_180 (by decide) ?_
  refine zx_iload_n E 3 dd_Ref_wrongProperty_181 rfl rfl ?_
  refine zx_callV_i (T := zx_TRef) E [.int x1, .int (3 : Int32), .int x3] (fun rZ eZ => zt_Ref_firstRule _ _ x1 (3 : Int32) x3 h _ eZ) zg_24 Nat.zero_lt_one rfl zc_Ref_151 ⟨by decide, by decide⟩ (Nat.zero_le _) (Nat.zero_le _) rfl rfl (Nat.le_of_ble_eq_true rfl) dd_Ref_wrongProperty_182 (fun r1 => ?_)
  refine zx_if_ge E 193 dd_Ref_wrongProperty_185 rfl ?_ ?_
  · refine zx_sub [0] rfl ?_
    exact zj_Ref_wrongProperty_188 E h s0
  refine zx_aload_n E 1 dd_Ref_wrongProperty_193 rfl rfl ?_
  refine zx_iconst E (4 : Int32) dd_Ref_wrongProperty_194 (by decide) ?_
  refine zx_iload E 4 dd_Ref_wrongProperty_195 rfl ?_
  refine zx_callV_i (T := zx_TRef) E [.int (4 : Int32), .int x4] (fun rZ eZ => zt_Ref_how _ _ (4 : Int32) x4 h _ eZ) zg_24 Nat.zero_lt_one rfl zc_Ref_192 ⟨by decide, by decide⟩ (Nat.zero_le _) (Nat.zero_le _) rfl rfl (Nat.le_of_ble_eq_true rfl) dd_Ref_wrongProperty_197 (fun r2 => ?_)
  refine zx_callS_i E [.int r2] (fun rZ eZ => zt_Ref_wrongWay _ _ r2 h _ eZ) zc_Ref_195 ⟨by decide, by decide⟩ (Nat.zero_le _) (Nat.zero_le _) rfl rfl (Nat.le_of_ble_eq_true rfl) dd_Ref_wrongProperty_200 (fun r3 => ?_)
  exact zx_iret E rfl rfl dd_Ref_wrongProperty_203
set_option maxHeartbeats 4000000 in
set_option maxRecDepth 20000 in
theorem zj_Ref_wrongProperty_169 {B : zx_B} (E : zx_E B zm_Ref_wrongProperty) (h : zx_H)  (x1 : Int32) (x3 : Int32) (x4 : Int32) : zx_X B zm_Ref_wrongProperty (zx_QM B (fun r => ((some (Value.int r) : Option Value), h))) (zs_Ref_wrongProperty_J169 h  x1 x3 x4) 0 0 169 [(0, zx_rV (zx_BK B) 24 0), (1, .int x1), (3, .int x3), (4, .int x4)] [] h := by
  unfold zs_Ref_wrongProperty_J169
  refine zx_bipush E (6 : Int32) dd_Ref_wrongProperty_169 (by decide) ?_
  exact zj_Ref_wrongProperty_171 E h x1 x3 x4 (6 : Int32)
set_option maxHeartbeats 4000000 in
set_option maxRecDepth 20000 in
theorem zj_Ref_wrongProperty_120 {B : zx_B} (E : zx_E B zm_Ref_wrongProperty) (h : zx_H)  (x1 : Int32) (x3 : Int32) (x4 : Int32) (x7 : Int32) (x8 : Int32) (s0 : Int32) : zx_X B zm_Ref_wrongProperty (zx_QM B (fun r => ((some (Value.int r) : Option Value), h))) (zs_Ref_wrongProperty_J120 h  x1 x3 x4 x7 x8 s0) 0 0 120 [(0, zx_rV (zx_BK B) 24 0), (1, .int x1), (3, .int x3), (4, .int x4), (7, .int x7), (8, .int x8)] [.int s0] h := by
  unfold zs_Ref_wrongProperty_J120
  refine zx_istore E (lv1 := [(9, .int s0), (0, zx_rV (zx_BK B) 24 0), (1, .int x1), (3, .int x3), (4, .int x4), (7, .int x7), (8, .int x8)]) dd_Ref_wrongProperty_120 (by decide) rfl ?_
  refine zx_iload E 6 dd_Ref_wrongProperty_122 rfl ?_
  refine zx_if_ge E 141 dd_Ref_wrongProperty_124 rfl ?_ ?_
  · refine zx_aload_n E 1 dd_Ref_wrongProperty_127 rfl rfl ?_
    refine zx_iload E 5 dd_Ref_wrongProperty_128 rfl ?_
    refine zx_iload E 4 dd_Ref_wrongProperty_130 rfl ?_
    refine zx_callV_i (T := zx_TRef) E [.int x7, .int x4] (fun rZ eZ => zt_Ref_how _ _ x7 x4 h _ eZ) zg_24 Nat.zero_lt_one rfl zc_Ref_192 ⟨by decide, by decide⟩ (Nat.zero_le _) (Nat.zero_le _) rfl rfl (Nat.le_of_ble_eq_true rfl) dd_Ref_wrongProperty_132 (fun r1 => ?_)
    refine zx_callS_i E [.int r1] (fun rZ eZ => zt_Ref_wrongWay _ _ r1 h _ eZ) zc_Ref_195 ⟨by decide, by decide⟩ (Nat.zero_le _) (Nat.zero_le _) rfl rfl (Nat.le_of_ble_eq_true rfl) dd_Ref_wrongProperty_135 (fun r2 => ?_)
    refine zx_goto E 171 dd_Ref_wrongProperty_138 rfl ?_
    refine zx_sub [1, 2, 3, 4] rfl ?_
    exact zj_Ref_wrongProperty_171 E h x1 x3 x4 r2
  refine zx_aload_n E 1 dd_Ref_wrongProperty_141 rfl rfl ?_
  refine zx_getR E 36 0 zd_Ref_functionFrom zg_24 Nat.zero_lt_one (zr_Ref_functionFrom _) zw_1123 dd_Ref_wrongProperty_142 ?_
  refine zx_iload E 0 dd_Ref_wrongProperty_145 rfl ?_
  refine zx_iald E zg_36 Nat.zero_lt_one dd_Ref_wrongProperty_147 ?_
  refine zx_iload E 5 dd_Ref_wrongProperty_148 rfl ?_
  refine zx_icmp_ne E 169 dd_Ref_wrongProperty_150 rfl ?_ ?_
  rotate_left
  · refine zx_sub [1, 2, 3, 4] rfl ?_
    exact zj_Ref_wrongProperty_169 E h x1 x3 x4
  refine zx_aload_n E 1 dd_Ref_wrongProperty_153 rfl rfl ?_
  refine zx_getR E 37 0 zd_Ref_functionTo zg_24 Nat.zero_lt_one (zr_Ref_functionTo _) zw_1124 dd_Ref_wrongProperty_154 ?_
  refine zx_iload E 0 dd_Ref_wrongProperty_157 rfl ?_
  refine zx_iald E zg_37 Nat.zero_lt_one dd_Ref_wrongProperty_159 ?_
  refine zx_iload E 4 dd_Ref_wrongProperty_160 rfl ?_
  refine zx_icmp_ne E 169 dd_Ref_wrongProperty_162 rfl ?_ ?_
  rotate_left
  · refine zx_sub [1, 2, 3, 4] rfl ?_
    exact zj_Ref_wrongProperty_169 E h x1 x3 x4
  refine zx_iconst E (0 : Int32) dd_Ref_wrongProperty_165 (by decide) ?_
  refine zx_goto E 171 dd_Ref_wrongProperty_166 rfl ?_
  refine zx_sub [1, 2, 3, 4] rfl ?_
  exact zj_Ref_wrongProperty_171 E h x1 x3 x4 (0 : Int32)
set_option maxHeartbeats 4000000 in
set_option maxRecDepth 20000 in
theorem zt_Ref_wrongProperty (l : Launch) (K : zx_K) (a1 : Int32) (a2 : Int32) (h : zx_H) (r : Int32) (hf : zs_Ref_wrongProperty a1 a2 h = some r) : zx_MR l zm_Ref_wrongProperty zy_Ref_wrongProperty K [zx_rV K 24 0, .int a1, .int a2] h (some (.int r)) h := by
  refine zx_ofM (M := zm_Ref_wrongProperty) (y := zy_Ref_wrongProperty) (r := r) (as := [zx_rV K 24 0, .int a1, .int a2]) (ρ := (fun r => ((some (Value.int r) : Option Value), h))) (by decide) rfl hf (Nat.le_of_ble_eq_true rfl) ?_
  intro B hl hK E
  subst hK
  subst hl
  show zx_X B zm_Ref_wrongProperty _ _ 0 0 0 [(0, zx_rV (zx_BK B) 24 0), (1, .int a1), (2, .int a2)] [] h
  unfold zs_Ref_wrongProperty
  refine zx_aload_n E 0 dd_Ref_wrongProperty_0 rfl rfl ?_
  refine zx_getR E 27 0 zd_Ref_names zg_24 Nat.zero_lt_one (zr_Ref_names _) zw_1112 dd_Ref_wrongProperty_1 ?_
  refine zx_bipush E (8 : Int32) dd_Ref_wrongProperty_4 (by decide) ?_
  refine zx_aload_n E 0 dd_Ref_wrongProperty_6 rfl rfl ?_
  refine zx_getR E 31 0 zd_Ref_methodTo zg_24 Nat.zero_lt_one (zr_Ref_methodTo _) zw_1117 dd_Ref_wrongProperty_7 ?_
  refine zx_iload_n E 1 dd_Ref_wrongProperty_10 rfl rfl ?_
  refine zx_iald E zg_31 Nat.zero_lt_one dd_Ref_wrongProperty_11 ?_
  refine zx_imul E dd_Ref_wrongProperty_12 ?_
  refine zx_iload_n E 2 dd_Ref_wrongProperty_13 rfl rfl ?_
  refine zx_iadd E dd_Ref_wrongProperty_14 ?_
  refine zx_iald E zg_27 Nat.zero_lt_one dd_Ref_wrongProperty_15 ?_
  refine zx_leti (fun y1 => ?_)
  refine zx_istore_n E (lv1 := [(3, .int y1), (0, zx_rV (zx_BK B) 24 0), (1, .int a1), (2, .int a2)]) dd_Ref_wrongProperty_16 rfl (by decide) rfl ?_
  refine zx_aload_n E 1 dd_Ref_wrongProperty_17 rfl rfl ?_
  refine zx_getR E 28 0 zd_Ref_propertyTypes zg_24 Nat.zero_lt_one (zr_Ref_propertyTypes _) zw_1113 dd_Ref_wrongProperty_18 ?_
  refine zx_bipush E (8 : Int32) dd_Ref_wrongProperty_21 (by decide) ?_
  refine zx_aload_n E 1 dd_Ref_wrongProperty_23 rfl rfl ?_
  refine zx_getR E 31 0 zd_Ref_methodTo zg_24 Nat.zero_lt_one (zr_Ref_methodTo _) zw_1117 dd_Ref_wrongProperty_24 ?_
  refine zx_iload_n E 2 dd_Ref_wrongProperty_27 rfl rfl ?_
  refine zx_iald E zg_31 Nat.zero_lt_one dd_Ref_wrongProperty_28 ?_
  refine zx_imul E dd_Ref_wrongProperty_29 ?_
  refine zx_iload_n E 3 dd_Ref_wrongProperty_30 rfl rfl ?_
  refine zx_iadd E dd_Ref_wrongProperty_31 ?_
  refine zx_iald E zg_28 Nat.zero_lt_one dd_Ref_wrongProperty_32 ?_
  refine zx_leti (fun y2 => ?_)
  refine zx_istore E (lv1 := [(4, .int y2), (3, .int y1), (0, zx_rV (zx_BK B) 24 0), (1, .int a1), (2, .int a2)]) dd_Ref_wrongProperty_33 (by decide) rfl ?_
  refine zx_aload_n E 2 dd_Ref_wrongProperty_35 rfl rfl ?_
  refine zx_iload_n E 3 dd_Ref_wrongProperty_36 rfl rfl ?_
  refine zx_iconst E (2 : Int32) dd_Ref_wrongProperty_37 (by decide) ?_
  refine zx_iload_n E 1 dd_Ref_wrongProperty_38 rfl rfl ?_
  refine zx_callV_i (T := zx_TRef) E [.int a1, .int (2 : Int32), .int y1] (fun rZ eZ => zt_Ref_firstRule _ _ a1 (2 : Int32) y1 h _ eZ) zg_24 Nat.zero_lt_one rfl zc_Ref_151 ⟨by decide, by decide⟩ (Nat.zero_le _) (Nat.zero_le _) rfl rfl (Nat.le_of_ble_eq_true rfl) dd_Ref_wrongProperty_39 (fun r3 => ?_)
  refine zx_if_lt E 47 dd_Ref_wrongProperty_42 rfl ?_ ?_
  · refine zx_iconst E (0 : Int32) dd_Ref_wrongProperty_45 (by decide) ?_
    exact zx_iret E rfl rfl dd_Ref_wrongProperty_46
  refine zx_aload_n E 2 dd_Ref_wrongProperty_47 rfl rfl ?_
  refine zx_iload_n E 3 dd_Ref_wrongProperty_48 rfl rfl ?_
  refine zx_iconst E (1 : Int32) dd_Ref_wrongProperty_49 (by decide) ?_
  refine zx_iload_n E 1 dd_Ref_wrongProperty_50 rfl rfl ?_
  refine zx_callV_i (T := zx_TRef) E [.int a1, .int (1 : Int32), .int y1] (fun rZ eZ => zt_Ref_firstRule _ _ a1 (1 : Int32) y1 h _ eZ) zg_24 Nat.zero_lt_one rfl zc_Ref_151 ⟨by decide, by decide⟩ (Nat.zero_le _) (Nat.zero_le _) rfl rfl (Nat.le_of_ble_eq_true rfl) dd_Ref_wrongProperty_51 (fun r4 => ?_)
  refine zx_if_lt E 68 dd_Ref_wrongProperty_54 rfl ?_ ?_
  · refine zx_aload_n E 2 dd_Ref_wrongProperty_57 rfl rfl ?_
    refine zx_iconst E (4 : Int32) dd_Ref_wrongProperty_58 (by decide) ?_
    refine zx_iload E 0 dd_Ref_wrongProperty_59 rfl ?_
    refine zx_callV_i (T := zx_TRef) E [.int (4 : Int32), .int y2] (fun rZ eZ => zt_Ref_how _ _ (4 : Int32) y2 h _ eZ) zg_24 Nat.zero_lt_one rfl zc_Ref_192 ⟨by decide, by decide⟩ (Nat.zero_le _) (Nat.zero_le _) rfl rfl (Nat.le_of_ble_eq_true rfl) dd_Ref_wrongProperty_61 (fun r5 => ?_)
    refine zx_callS_i E [.int r5] (fun rZ eZ => zt_Ref_wrongWay _ _ r5 h _ eZ) zc_Ref_195 ⟨by decide, by decide⟩ (Nat.zero_le _) (Nat.zero_le _) rfl rfl (Nat.le_of_ble_eq_true rfl) dd_Ref_wrongProperty_64 (fun r6 => ?_)
    exact zx_iret E rfl rfl dd_Ref_wrongProperty_67
  refine zx_aload_n E 2 dd_Ref_wrongProperty_68 rfl rfl ?_
  refine zx_iload_n E 3 dd_Ref_wrongProperty_69 rfl rfl ?_
  refine zx_iload_n E 1 dd_Ref_wrongProperty_70 rfl rfl ?_
  refine zx_callV_l (T := zx_TRef) E [.int a1, .int y1] (fun rZ eZ => zt_Ref_pathOf _ _ a1 y1 h _ eZ) zg_24 Nat.zero_lt_one rfl zc_Ref_198 ⟨by decide, by decide⟩ (Nat.zero_le _) (Nat.zero_le _) rfl rfl (Nat.le_of_ble_eq_true rfl) dd_Ref_wrongProperty_71 (fun r7 => ?_)
  refine zx_lstore E (lv1 := [(5, .long r7), (4, .int y2), (3, .int y1), (0, zx_rV (zx_BK B) 24 0), (1, .int a1), (2, .int a2)]) dd_Ref_wrongProperty_74 (by decide) rfl ?_
  refine zx_lload E 0 dd_Ref_wrongProperty_76 rfl ?_
  refine zx_lconst E (0 : Int64) dd_Ref_wrongProperty_78 rfl ?_
  refine zx_lcmp_ne E 85 dd_Ref_wrongProperty_79 dd_Ref_wrongProperty_80 rfl ?_ ?_
  · refine zx_iconst E (5 : Int32) dd_Ref_wrongProperty_83 (by decide) ?_
    exact zx_iret E rfl rfl dd_Ref_wrongProperty_84
  refine zx_aload_n E 3 dd_Ref_wrongProperty_85 rfl rfl ?_
  refine zx_iload_n E 4 dd_Ref_wrongProperty_86 rfl rfl ?_
  refine zx_lload E 0 dd_Ref_wrongProperty_87 rfl ?_
  refine zx_callV_i (T := zx_TRef) E [.int a1, .long r7] (fun rZ eZ => zt_Ref_endOf _ _ a1 r7 h _ eZ) zg_24 Nat.zero_lt_one rfl zc_Ref_186 ⟨by decide, by decide⟩ (Nat.zero_le _) (Nat.zero_le _) rfl rfl (Nat.le_of_ble_eq_true rfl) dd_Ref_wrongProperty_89 (fun r8 => ?_)
  refine zx_istore E (lv1 := [(7, .int r8), (5, .long r7), (4, .int y2), (3, .int y1), (0, zx_rV (zx_BK B) 24 0), (1, .int a1), (2, .int a2)]) dd_Ref_wrongProperty_92 (by decide) rfl ?_
  refine zx_aload_n E 4 dd_Ref_wrongProperty_94 rfl rfl ?_
  refine zx_iload_n E 5 dd_Ref_wrongProperty_95 rfl rfl ?_
  refine zx_iconst E (4 : Int32) dd_Ref_wrongProperty_96 (by decide) ?_
  refine zx_iload_n E 3 dd_Ref_wrongProperty_97 rfl rfl ?_
  refine zx_callV_i (T := zx_TRef) E [.int a1, .int (4 : Int32), .int y1] (fun rZ eZ => zt_Ref_firstRule _ _ a1 (4 : Int32) y1 h _ eZ) zg_24 Nat.zero_lt_one rfl zc_Ref_151 ⟨by decide, by decide⟩ (Nat.zero_le _) (Nat.zero_le _) rfl rfl (Nat.le_of_ble_eq_true rfl) dd_Ref_wrongProperty_98 (fun r9 => ?_)
  refine zx_istore E (lv1 := [(8, .int r9), (7, .int r8), (5, .long r7), (4, .int y2), (3, .int y1), (0, zx_rV (zx_BK B) 24 0), (1, .int a1), (2, .int a2)]) dd_Ref_wrongProperty_101 (by decide) rfl ?_
  refine zx_iload E 0 dd_Ref_wrongProperty_103 rfl ?_
  refine zx_if_ge E 112 dd_Ref_wrongProperty_105 rfl ?_ ?_
  · refine zx_iconst E (0 : Int32) dd_Ref_wrongProperty_108 (by decide) ?_
    refine zx_goto E 120 dd_Ref_wrongProperty_109 rfl ?_
    refine zx_sub [5, 6, 4, 3, 1, 0] rfl ?_
    exact zj_Ref_wrongProperty_120 E h a1 y1 y2 r8 r9 (0 : Int32)
  refine zx_aload_n E 5 dd_Ref_wrongProperty_112 rfl rfl ?_
  refine zx_getR E 35 0 zd_Ref_whats zg_24 Nat.zero_lt_one (zr_Ref_whats _) zw_1121 dd_Ref_wrongProperty_113 ?_
  refine zx_iload E 0 dd_Ref_wrongProperty_116 rfl ?_
  refine zx_lald E zg_35 Nat.zero_lt_one dd_Ref_wrongProperty_118 ?_
  refine zx_l2i E dd_Ref_wrongProperty_119 ?_
  refine zx_sub [5, 6, 4, 3, 1, 0] rfl ?_
  exact zj_Ref_wrongProperty_120 E h a1 y1 y2 r8 r9 ((h.2 35 0 r9.toNatClampNeg).toInt32)
set_option maxHeartbeats 4000000 in
set_option maxRecDepth 20000 in
theorem zj_Ref_isFaulty_152 {B : zx_B} (E : zx_E B zm_Ref_isFaulty) (k115 : (Int32 → Bool → Int32 → Int32 → zx_H → Option (Bool × zx_H))) (hk115 : ∀ (x1 : Int32) (x2 : Bool) (x3 : Int32) (x4 : Int32) (h : zx_H), zx_X B zm_Ref_isFaulty (zx_QM B (fun r => ((some (Value.int (zx_b r.1)) : Option Value), r.2))) (k115 x1 x2 x3 x4 h) 0 0 115 [(0, zx_rV (zx_BK B) 24 0), (1, .int x1), (2, .int (zx_b x2)), (3, .int x3), (4, .int x4)] [] h) (x1 : Int32) (x2 : Bool) (x3 : Int32) (x4 : Int32) (s0 : Int32) (h : zx_H) : zx_X B zm_Ref_isFaulty (zx_QM B (fun r => ((some (Value.int (zx_b r.1)) : Option Value), r.2))) (zs_Ref_isFaulty_J152 k115 x1 x2 x3 x4 s0 h) 0 0 152 [(0, zx_rV (zx_BK B) 24 0), (1, .int x1), (2, .int (zx_b x2)), (3, .int x3), (4, .int x4)] [.int s0] h := by
  unfold zs_Ref_isFaulty_J152
  refine zx_istore E (lv1 := [(5, .int s0), (0, zx_rV (zx_BK B) 24 0), (1, .int x1), (2, .int (zx_b x2)), (3, .int x3), (4, .int x4)]) dd_Ref_isFaulty_152 (by decide) rfl ?_
  refine zx_iload E 0 dd_Ref_isFaulty_154 rfl ?_
  refine zx_if_le E 169 dd_Ref_isFaulty_156 rfl ?_ ?_
  rotate_left
  · refine zx_iinc E 5 (x4 + (1 : Int32)) (lv1 := [(4, .int (x4 + (1 : Int32))), (5, .int s0), (0, zx_rV (zx_BK B) 24 0), (1, .int x1), (2, .int (zx_b x2)), (3, .int x3)]) dd_Ref_isFaulty_169 rfl rfl (by decide) rfl ?_
    refine zx_goto E 115 dd_Ref_isFaulty_172 rfl ?_
    refine zx_sub [2, 3, 4, 5, 0] rfl ?_
    exact hk115 x1 x2 x3 (x4 + (1 : Int32)) h
  refine zx_aload_n E 1 dd_Ref_isFaulty_159 rfl rfl ?_
  refine zx_iload E 0 dd_Ref_isFaulty_160 rfl ?_
  refine zx_iload_n E 2 dd_Ref_isFaulty_162 rfl rfl ?_
  refine zx_iload E 5 dd_Ref_isFaulty_163 rfl ?_
  refine zx_callV_zw (T := zx_TRef) E [.int s0, .int x1, .int x4] (fun rZ eZ => zt_Ref_faulty _ _ s0 x1 x4 h _ eZ) zg_24 Nat.zero_lt_one rfl zc_Ref_204 ⟨by decide, by decide⟩ (Nat.zero_le _) (Nat.zero_le _) rfl rfl (Nat.le_of_ble_eq_true rfl) dd_Ref_isFaulty_165 (fun r1 => ?_)
  exact zx_zret E r1.1 rfl rfl rfl dd_Ref_isFaulty_168
set_option maxHeartbeats 4000000 in
set_option maxRecDepth 20000 in
theorem zb_Ref_isFaulty_115 {B : zx_B} (E : zx_E B zm_Ref_isFaulty)  (k115 : (Int32 → Bool → Int32 → Int32 → zx_H → Option (Bool × zx_H))) (hk115 : ∀ (x1 : Int32) (x2 : Bool) (x3 : Int32) (x4 : Int32) (h : zx_H), zx_X B zm_Ref_isFaulty (zx_QM B (fun r => ((some (Value.int (zx_b r.1)) : Option Value), r.2))) (k115 x1 x2 x3 x4 h) 0 0 115 [(0, zx_rV (zx_BK B) 24 0), (1, .int x1), (2, .int (zx_b x2)), (3, .int x3), (4, .int x4)] [] h) (x1 : Int32) (x2 : Bool) (x3 : Int32) (x4 : Int32) (h : zx_H) : zx_X B zm_Ref_isFaulty (zx_QM B (fun r => ((some (Value.int (zx_b r.1)) : Option Value), r.2))) (zs_Ref_isFaulty_L115_body  k115 x1 x2 x3 x4 h) 0 0 115 [(0, zx_rV (zx_BK B) 24 0), (1, .int x1), (2, .int (zx_b x2)), (3, .int x3), (4, .int x4)] [] h := by
  unfold zs_Ref_isFaulty_L115_body
  refine zx_iload E 4 dd_Ref_isFaulty_115 rfl ?_
  refine zx_iload_n E 3 dd_Ref_isFaulty_117 rfl rfl ?_
  refine zx_icmp_ge E 175 dd_Ref_isFaulty_118 rfl ?_ ?_
  rotate_left
  · refine zx_iconst E (0 : Int32) dd_Ref_isFaulty_175 (by decide) ?_
    exact zx_zret E false rfl rfl rfl dd_Ref_isFaulty_176
  refine zx_iload_n E 2 dd_Ref_isFaulty_121 rfl rfl ?_
  refine zx_ifb_eq E (x := x2) 135 dd_Ref_isFaulty_122 rfl ?_ ?_
  · refine zx_aload_n E 0 dd_Ref_isFaulty_125 rfl rfl ?_
    refine zx_iload_n E 1 dd_Ref_isFaulty_126 rfl rfl ?_
    refine zx_iload E 4 dd_Ref_isFaulty_127 rfl ?_
    refine zx_callV_i (T := zx_TRef) E [.int x1, .int x4] (fun rZ eZ => zt_Ref_wrongProperty _ _ x1 x4 h _ eZ) zg_24 Nat.zero_lt_one rfl zc_Ref_211 ⟨by decide, by decide⟩ (Nat.zero_le _) (Nat.zero_le _) rfl rfl (Nat.le_of_ble_eq_true rfl) dd_Ref_isFaulty_129 (fun r1 => ?_)
    refine zx_goto E 152 dd_Ref_isFaulty_132 rfl ?_
    exact zj_Ref_isFaulty_152 E k115 hk115 x1 x2 x3 x4 r1 h
  refine zx_aload_n E 0 dd_Ref_isFaulty_135 rfl rfl ?_
  refine zx_iload_n E 1 dd_Ref_isFaulty_136 rfl rfl ?_
  refine zx_iload E 4 dd_Ref_isFaulty_137 rfl ?_
  refine zx_callV_i (T := zx_TRef) E [.int x1, .int x4] (fun rZ eZ => zt_Ref_constantOf _ _ x1 x4 h _ eZ) zg_24 Nat.zero_lt_one rfl zc_Ref_214 ⟨by decide, by decide⟩ (Nat.zero_le _) (Nat.zero_le _) rfl rfl (Nat.le_of_ble_eq_true rfl) dd_Ref_isFaulty_139 (fun r2 => ?_)
  refine zx_bipush E (-3 : Int32) dd_Ref_isFaulty_142 (by decide) ?_
  refine zx_icmp_ne E 151 dd_Ref_isFaulty_144 rfl ?_ ?_
  rotate_left
  · refine zx_iconst E (0 : Int32) dd_Ref_isFaulty_151 (by decide) ?_
    exact zj_Ref_isFaulty_152 E k115 hk115 x1 x2 x3 x4 (0 : Int32) h
  refine zx_iconst E (5 : Int32) dd_Ref_isFaulty_147 (by decide) ?_
  refine zx_goto E 152 dd_Ref_isFaulty_148 rfl ?_
  exact zj_Ref_isFaulty_152 E k115 hk115 x1 x2 x3 x4 (5 : Int32) h
theorem zj_Ref_isFaulty_115 {B : zx_B} (E : zx_E B zm_Ref_isFaulty)  : ∀ (x1 : Int32) (x2 : Bool) (x3 : Int32) (x4 : Int32) (h : zx_H), zx_X B zm_Ref_isFaulty (zx_QM B (fun r => ((some (Value.int (zx_b r.1)) : Option Value), r.2))) (zs_Ref_isFaulty_L115  x1 x2 x3 x4 h) 0 0 115 [(0, zx_rV (zx_BK B) 24 0), (1, .int x1), (2, .int (zx_b x2)), (3, .int x3), (4, .int x4)] [] h := by
  unfold zs_Ref_isFaulty_L115
  generalize zx_fuel = n
  induction n with
  | zero => intros; exact zx_non
  | succ n ih => intro x1 x2 x3 x4 h; exact zb_Ref_isFaulty_115 E  _ ih x1 x2 x3 x4 h
set_option maxHeartbeats 4000000 in
set_option maxRecDepth 20000 in
theorem zj_Ref_isFaulty_110 {B : zx_B} (E : zx_E B zm_Ref_isFaulty)  (x1 : Int32) (x2 : Bool) (s1 : Int32) (h : zx_H) : zx_X B zm_Ref_isFaulty (zx_QM B (fun r => ((some (Value.int (zx_b r.1)) : Option Value), r.2))) (zs_Ref_isFaulty_J110  x1 x2 s1 h) 0 0 110 [(0, zx_rV (zx_BK B) 24 0), (1, .int x1), (2, .int (zx_b x2))] [.int s1, zx_rV (zx_BK B) 26 0] h := by
  unfold zs_Ref_isFaulty_J110
  refine zx_iald E zg_26 Nat.zero_lt_one dd_Ref_isFaulty_110 ?_
  refine zx_leti (fun y1 => ?_)
  refine zx_istore_n E (lv1 := [(3, .int y1), (0, zx_rV (zx_BK B) 24 0), (1, .int x1), (2, .int (zx_b x2))]) dd_Ref_isFaulty_111 rfl (by decide) rfl ?_
  refine zx_iconst E (0 : Int32) dd_Ref_isFaulty_112 (by decide) ?_
  refine zx_istore E (lv1 := [(4, .int (0 : Int32)), (3, .int y1), (0, zx_rV (zx_BK B) 24 0), (1, .int x1), (2, .int (zx_b x2))]) dd_Ref_isFaulty_113 (by decide) rfl ?_
  refine zx_sub [2, 3, 4, 1, 0] rfl ?_
  exact zj_Ref_isFaulty_115 E x1 x2 y1 (0 : Int32) h
set_option maxHeartbeats 4000000 in
set_option maxRecDepth 20000 in
theorem zj_Ref_isFaulty_86 {B : zx_B} (E : zx_E B zm_Ref_isFaulty)  (x1 : Int32) (s0 : Bool) (h : zx_H) : zx_X B zm_Ref_isFaulty (zx_QM B (fun r => ((some (Value.int (zx_b r.1)) : Option Value), r.2))) (zs_Ref_isFaulty_J86  x1 s0 h) 0 0 86 [(0, zx_rV (zx_BK B) 24 0), (1, .int x1)] [.int (zx_b s0)] h := by
  unfold zs_Ref_isFaulty_J86
  refine zx_istore_n E (lv1 := [(2, .int (zx_b s0)), (0, zx_rV (zx_BK B) 24 0), (1, .int x1)]) dd_Ref_isFaulty_86 rfl (by decide) rfl ?_
  refine zx_aload_n E 1 dd_Ref_isFaulty_87 rfl rfl ?_
  refine zx_getR E 26 0 zd_Ref_size zg_24 Nat.zero_lt_one (zr_Ref_size _) zw_1111 dd_Ref_isFaulty_88 ?_
  refine zx_iload_n E 0 dd_Ref_isFaulty_91 rfl rfl ?_
  refine zx_ifb_eq E (x := s0) 104 dd_Ref_isFaulty_92 rfl ?_ ?_
  rotate_left
  · refine zx_aload_n E 1 dd_Ref_isFaulty_104 rfl rfl ?_
    refine zx_getR E 30 0 zd_Ref_methodFrom zg_24 Nat.zero_lt_one (zr_Ref_methodFrom _) zw_1116 dd_Ref_isFaulty_105 ?_
    refine zx_iload_n E 2 dd_Ref_isFaulty_108 rfl rfl ?_
    refine zx_iald E zg_30 Nat.zero_lt_one dd_Ref_isFaulty_109 ?_
    refine zx_sub [1, 2, 0] rfl ?_
    exact zj_Ref_isFaulty_110 E x1 s0 (h.1 30 0 x1.toNatClampNeg) h
  refine zx_aload_n E 1 dd_Ref_isFaulty_95 rfl rfl ?_
  refine zx_getR E 31 0 zd_Ref_methodTo zg_24 Nat.zero_lt_one (zr_Ref_methodTo _) zw_1117 dd_Ref_isFaulty_96 ?_
  refine zx_iload_n E 2 dd_Ref_isFaulty_99 rfl rfl ?_
  refine zx_iald E zg_31 Nat.zero_lt_one dd_Ref_isFaulty_100 ?_
  refine zx_goto E 110 dd_Ref_isFaulty_101 rfl ?_
  refine zx_sub [1, 2, 0] rfl ?_
  exact zj_Ref_isFaulty_110 E x1 s0 (h.1 31 0 x1.toNatClampNeg) h
set_option maxHeartbeats 4000000 in
set_option maxRecDepth 20000 in
theorem zb_Ref_isFaulty_21 {B : zx_B} (E : zx_E B zm_Ref_isFaulty)  (k21 : (Int32 → Int32 → zx_H → Option (Bool × zx_H))) (hk21 : ∀ (x1 : Int32) (x2 : Int32) (h : zx_H), zx_X B zm_Ref_isFaulty (zx_QM B (fun r => ((some (Value.int (zx_b r.1)) : Option Value), r.2))) (k21 x1 x2 h) 0 0 21 [(0, zx_rV (zx_BK B) 24 0), (1, .int x1), (2, .int x2)] [] h) (x1 : Int32) (x2 : Int32) (h : zx_H) : zx_X B zm_Ref_isFaulty (zx_QM B (fun r => ((some (Value.int (zx_b r.1)) : Option Value), r.2))) (zs_Ref_isFaulty_L21_body  k21 x1 x2 h) 0 0 21 [(0, zx_rV (zx_BK B) 24 0), (1, .int x1), (2, .int x2)] [] h := by
  unfold zs_Ref_isFaulty_L21_body
  refine zx_iload_n E 2 dd_Ref_isFaulty_21 rfl rfl ?_
  refine zx_bipush E (24 : Int32) dd_Ref_isFaulty_22 (by decide) ?_
  refine zx_iload_n E 1 dd_Ref_isFaulty_24 rfl rfl ?_
  refine zx_imul E dd_Ref_isFaulty_25 ?_
  refine zx_aload_n E 0 dd_Ref_isFaulty_26 rfl rfl ?_
  refine zx_getR E 32 0 zd_Ref_ruleCount zg_24 Nat.zero_lt_one (zr_Ref_ruleCount _) zw_1118 dd_Ref_isFaulty_27 ?_
  refine zx_iload_n E 1 dd_Ref_isFaulty_30 rfl rfl ?_
  refine zx_iald E zg_32 Nat.zero_lt_one dd_Ref_isFaulty_31 ?_
  refine zx_iadd E dd_Ref_isFaulty_32 ?_
  refine zx_icmp_ge E 66 dd_Ref_isFaulty_33 rfl ?_ ?_
  rotate_left
  · refine zx_aload_n E 0 dd_Ref_isFaulty_66 rfl rfl ?_
    refine zx_getR E 25 0 zd_Ref_sort zg_24 Nat.zero_lt_one (zr_Ref_sort _) zw_1110 dd_Ref_isFaulty_67 ?_
    refine zx_aload_n E 0 dd_Ref_isFaulty_70 rfl rfl ?_
    refine zx_getR E 31 0 zd_Ref_methodTo zg_24 Nat.zero_lt_one (zr_Ref_methodTo _) zw_1117 dd_Ref_isFaulty_71 ?_
    refine zx_iload_n E 1 dd_Ref_isFaulty_74 rfl rfl ?_
    refine zx_iald E zg_31 Nat.zero_lt_one dd_Ref_isFaulty_75 ?_
    refine zx_iald E zg_25 Nat.zero_lt_one dd_Ref_isFaulty_76 ?_
    refine zx_iconst E (4 : Int32) dd_Ref_isFaulty_77 (by decide) ?_
    refine zx_icmp_ne E 85 dd_Ref_isFaulty_78 rfl ?_ ?_
    rotate_left
    · refine zx_iconst E (0 : Int32) dd_Ref_isFaulty_85 (by decide) ?_
      refine zx_sub [0, 1] rfl ?_
      exact zj_Ref_isFaulty_86 E x1 false h
    refine zx_iconst E (1 : Int32) dd_Ref_isFaulty_81 (by decide) ?_
    refine zx_goto E 86 dd_Ref_isFaulty_82 rfl ?_
    refine zx_sub [0, 1] rfl ?_
    exact zj_Ref_isFaulty_86 E x1 true h
  refine zx_aload_n E 0 dd_Ref_isFaulty_36 rfl rfl ?_
  refine zx_iload_n E 1 dd_Ref_isFaulty_37 rfl rfl ?_
  refine zx_iload_n E 2 dd_Ref_isFaulty_38 rfl rfl ?_
  refine zx_callV_i (T := zx_TRef) E [.int x1, .int x2] (fun rZ eZ => zt_Ref_wrong _ _ x1 x2 h _ eZ) zg_24 Nat.zero_lt_one rfl zc_Ref_208 ⟨by decide, by decide⟩ (Nat.zero_le _) (Nat.zero_le _) rfl rfl (Nat.le_of_ble_eq_true rfl) dd_Ref_isFaulty_39 (fun r1 => ?_)
  refine zx_istore_n E (lv1 := [(3, .int r1), (0, zx_rV (zx_BK B) 24 0), (1, .int x1), (2, .int x2)]) dd_Ref_isFaulty_42 rfl (by decide) rfl ?_
  refine zx_iload_n E 0 dd_Ref_isFaulty_43 rfl rfl ?_
  refine zx_if_le E 60 dd_Ref_isFaulty_44 rfl ?_ ?_
  rotate_left
  · refine zx_iinc E 3 (x2 + (1 : Int32)) (lv1 := [(2, .int (x2 + (1 : Int32))), (3, .int r1), (0, zx_rV (zx_BK B) 24 0), (1, .int x1)]) dd_Ref_isFaulty_60 rfl rfl (by decide) rfl ?_
    refine zx_goto E 21 dd_Ref_isFaulty_63 rfl ?_
    refine zx_sub [2, 3, 0] rfl ?_
    exact hk21 x1 (x2 + (1 : Int32)) h
  refine zx_aload_n E 1 dd_Ref_isFaulty_47 rfl rfl ?_
  refine zx_iload_n E 0 dd_Ref_isFaulty_48 rfl rfl ?_
  refine zx_iload_n E 2 dd_Ref_isFaulty_49 rfl rfl ?_
  refine zx_iload_n E 3 dd_Ref_isFaulty_50 rfl rfl ?_
  refine zx_bipush E (24 : Int32) dd_Ref_isFaulty_51 (by decide) ?_
  refine zx_iload_n E 2 dd_Ref_isFaulty_53 rfl rfl ?_
  refine zx_imul E dd_Ref_isFaulty_54 ?_
  refine zx_isub E dd_Ref_isFaulty_55 ?_
  refine zx_callV_zw (T := zx_TRef) E [.int r1, .int x1, .int (x2 - ((24 : Int32) * x1))] (fun rZ eZ => zt_Ref_faulty _ _ r1 x1 (x2 - ((24 : Int32) * x1)) h _ eZ) zg_24 Nat.zero_lt_one rfl zc_Ref_204 ⟨by decide, by decide⟩ (Nat.zero_le _) (Nat.zero_le _) rfl rfl (Nat.le_of_ble_eq_true rfl) dd_Ref_isFaulty_56 (fun r2 => ?_)
  exact zx_zret E r2.1 rfl rfl rfl dd_Ref_isFaulty_59
theorem zj_Ref_isFaulty_21 {B : zx_B} (E : zx_E B zm_Ref_isFaulty)  : ∀ (x1 : Int32) (x2 : Int32) (h : zx_H), zx_X B zm_Ref_isFaulty (zx_QM B (fun r => ((some (Value.int (zx_b r.1)) : Option Value), r.2))) (zs_Ref_isFaulty_L21  x1 x2 h) 0 0 21 [(0, zx_rV (zx_BK B) 24 0), (1, .int x1), (2, .int x2)] [] h := by
  unfold zs_Ref_isFaulty_L21
  generalize zx_fuel = n
  induction n with
  | zero => intros; exact zx_non
  | succ n ih => intro x1 x2 h; exact zb_Ref_isFaulty_21 E  _ ih x1 x2 h
set_option maxHeartbeats 4000000 in
set_option maxRecDepth 20000 in
theorem zt_Ref_isFaulty (l : Launch) (K : zx_K) (a1 : Int32) (h : zx_H) (r : (Bool × zx_H)) (hf : zs_Ref_isFaulty a1 h = some r) : zx_MR l zm_Ref_isFaulty zy_Ref_isFaulty K [zx_rV K 24 0, .int a1] h (some (.int (zx_b r.1))) r.2 := by
  refine zx_ofM (M := zm_Ref_isFaulty) (y := zy_Ref_isFaulty) (r := r) (as := [zx_rV K 24 0, .int a1]) (ρ := (fun r => ((some (Value.int (zx_b r.1)) : Option Value), r.2))) (by decide) rfl hf (Nat.le_of_ble_eq_true rfl) ?_
  intro B hl hK E
  subst hK
  subst hl
  show zx_X B zm_Ref_isFaulty _ _ 0 0 0 [(0, zx_rV (zx_BK B) 24 0), (1, .int a1)] [] h
  unfold zs_Ref_isFaulty
  refine zx_aload_n E 0 dd_Ref_isFaulty_0 rfl rfl ?_
  refine zx_iload_n E 1 dd_Ref_isFaulty_1 rfl rfl ?_
  refine zx_callV_z (T := zx_TRef) E [.int a1] (fun rZ eZ => zt_Ref_isWrongInverse _ _ a1 h _ eZ) zg_24 Nat.zero_lt_one rfl zc_Ref_201 ⟨by decide, by decide⟩ (Nat.zero_le _) (Nat.zero_le _) rfl rfl (Nat.le_of_ble_eq_true rfl) dd_Ref_isFaulty_2 (fun r1 => ?_)
  refine zx_ifb_eq E (x := r1) 16 dd_Ref_isFaulty_5 rfl ?_ ?_
  · refine zx_aload_n E 0 dd_Ref_isFaulty_8 rfl rfl ?_
    refine zx_iconst E (1 : Int32) dd_Ref_isFaulty_9 (by decide) ?_
    refine zx_iload_n E 1 dd_Ref_isFaulty_10 rfl rfl ?_
    refine zx_iconst E (-1 : Int32) dd_Ref_isFaulty_11 (by decide) ?_
    refine zx_callV_zw (T := zx_TRef) E [.int (1 : Int32), .int a1, .int (-1 : Int32)] (fun rZ eZ => zt_Ref_faulty _ _ (1 : Int32) a1 (-1 : Int32) h _ eZ) zg_24 Nat.zero_lt_one rfl zc_Ref_204 ⟨by decide, by decide⟩ (Nat.zero_le _) (Nat.zero_le _) rfl rfl (Nat.le_of_ble_eq_true rfl) dd_Ref_isFaulty_12 (fun r2 => ?_)
    exact zx_zret E r2.1 rfl rfl rfl dd_Ref_isFaulty_15
  refine zx_bipush E (24 : Int32) dd_Ref_isFaulty_16 (by decide) ?_
  refine zx_iload_n E 1 dd_Ref_isFaulty_18 rfl rfl ?_
  refine zx_imul E dd_Ref_isFaulty_19 ?_
  refine zx_leti (fun y3 => ?_)
  refine zx_istore_n E (lv1 := [(2, .int y3), (0, zx_rV (zx_BK B) 24 0), (1, .int a1)]) dd_Ref_isFaulty_20 rfl (by decide) rfl ?_
  refine zx_sub [1, 2, 0] rfl ?_
  exact zj_Ref_isFaulty_21 E a1 y3 h
