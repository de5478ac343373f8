/-! the loops -/
def zm_fail (A : zd_A) (hc hr s k : zx_H) : Prop := zd_fC (zd_O A) hc s ∧ s.1 23 0 2 = nI 1 ∧ zd_fR (zd_O A) hr k ∧ k.1 24 0 37 = nI 1
theorem zm_C_stop {s : zx_H} (f : s.1 23 0 2 = nI 1) (kk : Int64 → Int32 → zx_H → Option (Int64 × zx_H)) (x4 : Int64) (x : Int32) : zs_Mapper_run_L32_body kk x4 x s = some (x4, s) := by
  have n10 : (nI 1 = nI 0) = False := by decide
  by_cases c : (6800 : Int32) ≤ x
  · simp (disch := omega) only [zs_Mapper_run_L32_body, c, if_true]
  · by_cases c2 : s.1 17 0 10 ≤ nI 0
    · simp (disch := omega) only [zs_Mapper_run_L32_body, c, c2, ↓zd_bnd, ↓zy_bm, if_true, if_false, ite_true, ite_false, ↓reduceIte, Bool.false_eq_true, Bool.true_eq_false, eq_self, true_and, and_true, false_and, and_false, reduceCtorEq, decide_true, decide_false, not_true_eq_false, not_false_eq_true, ze_ltT, ze_ltF, ze_leT, ze_leF, ze_eqT, ze_eqF, ze_mlt, ze_ltm, ze_mle, ze_lem, ze_meq, ze_eqm, ze_mm, ze_mltm, ze_inT, ze_inF, ze_inM, ze_cl, ze_fin, ze_decT, ze_decF, Nat.reduceSub, Nat.reduceMul, nI_add, Nat.add_sub_cancel, Nat.add_assoc, Nat.reduceAdd, ze_r8, ze_r24, ze_r40, ze_r400, ze_l8, ze_l16, ze_l24, ze_l40, ze_sub, ze_am1, ze_es, ze_en, ze_i64, ze_m64, ze_64i, ze_64m, ze_LltT, ze_LltF, ze_LleT, ze_LleF, ze_LeqT, ze_LeqF, ze_Lmlt, ze_Lltm, ze_Lmle, ze_Llem, ze_Lmeq, ze_Leqm, ze_Lmm, lN_add, ze_ch, ze_chd, ze_bt, ze_bf, ze_n0, ze_n1, ze_n2, ze_n3, ze_n4, ze_n5, ze_n6, ze_n7, ze_n8, ze_n9, ze_n10, ze_n11, ze_n12, ze_n13, ze_n14, ze_n15, ze_n16, ze_n17, ze_n18, ze_n19, ze_n20, ze_n21, ze_n22, ze_n23, ze_n24, ze_n25, ze_n26, ze_n27, ze_n28, ze_n29, ze_n30, ze_n31, ze_n32, ze_n33, ze_n34, ze_n35, ze_n36, ze_n37, ze_n38, ze_n39, ze_n40, ze_n48, ze_n63, ze_n64, ze_n65, ze_n80, ze_n100, ze_n128, ze_n200, ze_n255, ze_n300, ze_n320, ze_n384, ze_n400, ze_n512, ze_n1023, ze_n1600, ze_n6400, ze_n9600, ze_n32768, ze_n65535, ze_n65536, ze_n802, ze_n8191, ze_L0, ze_L1, ze_L2, ze_L3, ze_L4, ze_L5, ze_L6, ze_L7, ze_L8, ze_L9, ze_L10, ze_L15, ze_L16, ze_L24, ze_L40, ze_L48, ze_L63, ze_L64, ze_L127, ze_L255, ze_L400, ze_L1024, ze_L2047, ze_L65535]
    · simp (disch := omega) only [zs_Mapper_run_L32_body, c, c2, f, n10, ↓zd_bnd, ↓zy_bm, if_true, if_false, ite_true, ite_false, ↓reduceIte, Bool.false_eq_true, Bool.true_eq_false, eq_self, true_and, and_true, false_and, and_false, reduceCtorEq, decide_true, decide_false, not_true_eq_false, not_false_eq_true, ze_ltT, ze_ltF, ze_leT, ze_leF, ze_eqT, ze_eqF, ze_mlt, ze_ltm, ze_mle, ze_lem, ze_meq, ze_eqm, ze_mm, ze_mltm, ze_inT, ze_inF, ze_inM, ze_cl, ze_fin, ze_decT, ze_decF, Nat.reduceSub, Nat.reduceMul, nI_add, Nat.add_sub_cancel, Nat.add_assoc, Nat.reduceAdd, ze_r8, ze_r24, ze_r40, ze_r400, ze_l8, ze_l16, ze_l24, ze_l40, ze_sub, ze_am1, ze_es, ze_en, ze_i64, ze_m64, ze_64i, ze_64m, ze_LltT, ze_LltF, ze_LleT, ze_LleF, ze_LeqT, ze_LeqF, ze_Lmlt, ze_Lltm, ze_Lmle, ze_Llem, ze_Lmeq, ze_Leqm, ze_Lmm, lN_add, ze_ch, ze_chd, ze_bt, ze_bf, ze_n0, ze_n1, ze_n2, ze_n3, ze_n4, ze_n5, ze_n6, ze_n7, ze_n8, ze_n9, ze_n10, ze_n11, ze_n12, ze_n13, ze_n14, ze_n15, ze_n16, ze_n17, ze_n18, ze_n19, ze_n20, ze_n21, ze_n22, ze_n23, ze_n24, ze_n25, ze_n26, ze_n27, ze_n28, ze_n29, ze_n30, ze_n31, ze_n32, ze_n33, ze_n34, ze_n35, ze_n36, ze_n37, ze_n38, ze_n39, ze_n40, ze_n48, ze_n63, ze_n64, ze_n65, ze_n80, ze_n100, ze_n128, ze_n200, ze_n255, ze_n300, ze_n320, ze_n384, ze_n400, ze_n512, ze_n1023, ze_n1600, ze_n6400, ze_n9600, ze_n32768, ze_n65535, ze_n65536, ze_n802, ze_n8191, ze_L0, ze_L1, ze_L2, ze_L3, ze_L4, ze_L5, ze_L6, ze_L7, ze_L8, ze_L9, ze_L10, ze_L15, ze_L16, ze_L24, ze_L40, ze_L48, ze_L63, ze_L64, ze_L127, ze_L255, ze_L400, ze_L1024, ze_L2047, ze_L65535]
theorem zm_R_stop {k : zx_H} (f : k.1 24 0 37 = nI 1) (kk : Int32 → Int64 → zx_H → Option (Int32 × zx_H)) (x3 : Int32) (x4 : Int64) : zs_Ref_map_L96_body kk x3 x4 k = zs_Ref_map_J138 x3 x4 k := by
  have n10 : (nI 1 = nI 0) = False := by decide
  by_cases c2 : k.1 24 0 32 ≤ nI 0
  · simp (disch := omega) only [zs_Ref_map_L96_body, c2, ↓zd_bnd, ↓zy_bm, if_true, if_false, ite_true, ite_false, ↓reduceIte, Bool.false_eq_true, Bool.true_eq_false, eq_self, true_and, and_true, false_and, and_false, reduceCtorEq, decide_true, decide_false, not_true_eq_false, not_false_eq_true, ze_ltT, ze_ltF, ze_leT, ze_leF, ze_eqT, ze_eqF, ze_mlt, ze_ltm, ze_mle, ze_lem, ze_meq, ze_eqm, ze_mm, ze_mltm, ze_inT, ze_inF, ze_inM, ze_cl, ze_fin, ze_decT, ze_decF, Nat.reduceSub, Nat.reduceMul, nI_add, Nat.add_sub_cancel, Nat.add_assoc, Nat.reduceAdd, ze_r8, ze_r24, ze_r40, ze_r400, ze_l8, ze_l16, ze_l24, ze_l40, ze_sub, ze_am1, ze_es, ze_en, ze_i64, ze_m64, ze_64i, ze_64m, ze_LltT, ze_LltF, ze_LleT, ze_LleF, ze_LeqT, ze_LeqF, ze_Lmlt, ze_Lltm, ze_Lmle, ze_Llem, ze_Lmeq, ze_Leqm, ze_Lmm, lN_add, ze_ch, ze_chd, ze_bt, ze_bf, ze_n0, ze_n1, ze_n2, ze_n3, ze_n4, ze_n5, ze_n6, ze_n7, ze_n8, ze_n9, ze_n10, ze_n11, ze_n12, ze_n13, ze_n14, ze_n15, ze_n16, ze_n17, ze_n18, ze_n19, ze_n20, ze_n21, ze_n22, ze_n23, ze_n24, ze_n25, ze_n26, ze_n27, ze_n28, ze_n29, ze_n30, ze_n31, ze_n32, ze_n33, ze_n34, ze_n35, ze_n36, ze_n37, ze_n38, ze_n39, ze_n40, ze_n48, ze_n63, ze_n64, ze_n65, ze_n80, ze_n100, ze_n128, ze_n200, ze_n255, ze_n300, ze_n320, ze_n384, ze_n400, ze_n512, ze_n1023, ze_n1600, ze_n6400, ze_n9600, ze_n32768, ze_n65535, ze_n65536, ze_n802, ze_n8191, ze_L0, ze_L1, ze_L2, ze_L3, ze_L4, ze_L5, ze_L6, ze_L7, ze_L8, ze_L9, ze_L10, ze_L15, ze_L16, ze_L24, ze_L40, ze_L48, ze_L63, ze_L64, ze_L127, ze_L255, ze_L400, ze_L1024, ze_L2047, ze_L65535]
  · simp (disch := omega) only [zs_Ref_map_L96_body, c2, f, n10, ↓zd_bnd, ↓zy_bm, if_true, if_false, ite_true, ite_false, ↓reduceIte, Bool.false_eq_true, Bool.true_eq_false, eq_self, true_and, and_true, false_and, and_false, reduceCtorEq, decide_true, decide_false, not_true_eq_false, not_false_eq_true, ze_ltT, ze_ltF, ze_leT, ze_leF, ze_eqT, ze_eqF, ze_mlt, ze_ltm, ze_mle, ze_lem, ze_meq, ze_eqm, ze_mm, ze_mltm, ze_inT, ze_inF, ze_inM, ze_cl, ze_fin, ze_decT, ze_decF, Nat.reduceSub, Nat.reduceMul, nI_add, Nat.add_sub_cancel, Nat.add_assoc, Nat.reduceAdd, ze_r8, ze_r24, ze_r40, ze_r400, ze_l8, ze_l16, ze_l24, ze_l40, ze_sub, ze_am1, ze_es, ze_en, ze_i64, ze_m64, ze_64i, ze_64m, ze_LltT, ze_LltF, ze_LleT, ze_LleF, ze_LeqT, ze_LeqF, ze_Lmlt, ze_Lltm, ze_Lmle, ze_Llem, ze_Lmeq, ze_Leqm, ze_Lmm, lN_add, ze_ch, ze_chd, ze_bt, ze_bf, ze_n0, ze_n1, ze_n2, ze_n3, ze_n4, ze_n5, ze_n6, ze_n7, ze_n8, ze_n9, ze_n10, ze_n11, ze_n12, ze_n13, ze_n14, ze_n15, ze_n16, ze_n17, ze_n18, ze_n19, ze_n20, ze_n21, ze_n22, ze_n23, ze_n24, ze_n25, ze_n26, ze_n27, ze_n28, ze_n29, ze_n30, ze_n31, ze_n32, ze_n33, ze_n34, ze_n35, ze_n36, ze_n37, ze_n38, ze_n39, ze_n40, ze_n48, ze_n63, ze_n64, ze_n65, ze_n80, ze_n100, ze_n128, ze_n200, ze_n255, ze_n300, ze_n320, ze_n384, ze_n400, ze_n512, ze_n1023, ze_n1600, ze_n6400, ze_n9600, ze_n32768, ze_n65535, ze_n65536, ze_n802, ze_n8191, ze_L0, ze_L1, ze_L2, ze_L3, ze_L4, ze_L5, ze_L6, ze_L7, ze_L8, ze_L9, ze_L10, ze_L15, ze_L16, ze_L24, ze_L40, ze_L48, ze_L63, ze_L64, ze_L127, ze_L255, ze_L400, ze_L1024, ze_L2047, ze_L65535]
theorem zm_loops {A : zd_A} {hc hr : zx_H} (HC : zd_C A hc) (HR : zd_R A hr) (K : zd_ok A) (PQ : ∀ m, m < zd_M A → zp_PM A hc m ∧ zp_dm A m = none) : ∀ (d : Nat) (B : zd_A) (G : zm_G) (s k : zx_H) (x6 F F2 : Nat), zm_LS A hc hr B G s k → zm_Ph B G ≤ d → x6 + zm_Ph B G ≤ 6800 → d + 1 < F → d + 1 < F2 → ∃ s' k', (∀ x4, zx_loop (fun _ _ _ => none) zs_Mapper_run_L32_body F x4 (nI x6) s = some (x4, s')) ∧ (∀ x3 x4, zx_loop (fun _ _ _ => none) zs_Ref_map_L96_body F2 x3 x4 k = zs_Ref_map_J138 x3 x4 k') ∧ (zm_fail A hc hr s' k' ∨ ∃ B2 G2, zm_LS A hc hr B2 G2 s' k') := by
  intro d
  induction d with
  | zero =>
    intro B G s k x6 F F2 L hP hx hF hF2
    obtain ⟨F, rfl⟩ : ∃ E, F = E + 1 := ⟨F - 1, by omega⟩
    obtain ⟨F2, rfl⟩ : ∃ E, F2 = E + 1 := ⟨F2 - 1, by omega⟩
    by_cases h : 0 < G.1.1
    · exfalso
      obtain ⟨s', k', _, _, e3⟩ := zm_turn HC HR K PQ L h
      have I := L.2.2.2.2.2.2.1
      unfold zm_Ph at hP
      obtain ⟨i, hh⟩ : ∃ i, G.1.1 = i + 1 := ⟨G.1.1 - 1, by omega⟩
      rw [hh] at hP
      have hP : 17 * (400 - zd_O B) + (zm_ps G.1.2 i + (17 - (G.1.2 i).2.2.2)) ≤ 0 := hP
      have en := I.2.2.2.1 i (by omega)
      rcases en.2.2.2 with ⟨a1, a2, _, _, a5, _⟩ | ⟨_, a2, _, _, a5, _⟩
      · have hme := zd_ok_m K _ a1
        have hT := zd_ok_T K
        have := zd_ok_sz K (zd_mt A (G.1.2 i).1) (by omega)
        omega
      · have := (zd_ok_l5 K _ en.1 a2).1
        omega
    · have P := L.2.2.2.2.1
      have R := L.2.2.2.2.2.1
      have p10 := P.2.1
      have r32 := R.2.1
      rw [show G.1.1 = 0 by omega] at p10 r32
      refine ⟨s, k, fun x4 => ?_, fun x3 x4 => ?_, Or.inr ⟨B, G, L⟩⟩
      · show zs_Mapper_run_L32_body _ x4 (nI x6) s = _
        by_cases c : (6800 : Int32) ≤ nI x6
        · simp (disch := omega) only [zs_Mapper_run_L32_body, c, if_true]
        · simp (disch := omega) only [zs_Mapper_run_L32_body, c, p10, ↓zd_bnd, ↓zy_bm, if_true, if_false, ite_true, ite_false, ↓reduceIte, Bool.false_eq_true, Bool.true_eq_false, eq_self, true_and, and_true, false_and, and_false, reduceCtorEq, decide_true, decide_false, not_true_eq_false, not_false_eq_true, ze_ltT, ze_ltF, ze_leT, ze_leF, ze_eqT, ze_eqF, ze_mlt, ze_ltm, ze_mle, ze_lem, ze_meq, ze_eqm, ze_mm, ze_mltm, ze_inT, ze_inF, ze_inM, ze_cl, ze_fin, ze_decT, ze_decF, Nat.reduceSub, Nat.reduceMul, nI_add, Nat.add_sub_cancel, Nat.add_assoc, Nat.reduceAdd, ze_r8, ze_r24, ze_r40, ze_r400, ze_l8, ze_l16, ze_l24, ze_l40, ze_sub, ze_am1, ze_es, ze_en, ze_i64, ze_m64, ze_64i, ze_64m, ze_LltT, ze_LltF, ze_LleT, ze_LleF, ze_LeqT, ze_LeqF, ze_Lmlt, ze_Lltm, ze_Lmle, ze_Llem, ze_Lmeq, ze_Leqm, ze_Lmm, lN_add, ze_ch, ze_chd, ze_bt, ze_bf, ze_n0, ze_n1, ze_n2, ze_n3, ze_n4, ze_n5, ze_n6, ze_n7, ze_n8, ze_n9, ze_n10, ze_n11, ze_n12, ze_n13, ze_n14, ze_n15, ze_n16, ze_n17, ze_n18, ze_n19, ze_n20, ze_n21, ze_n22, ze_n23, ze_n24, ze_n25, ze_n26, ze_n27, ze_n28, ze_n29, ze_n30, ze_n31, ze_n32, ze_n33, ze_n34, ze_n35, ze_n36, ze_n37, ze_n38, ze_n39, ze_n40, ze_n48, ze_n63, ze_n64, ze_n65, ze_n80, ze_n100, ze_n128, ze_n200, ze_n255, ze_n300, ze_n320, ze_n384, ze_n400, ze_n512, ze_n1023, ze_n1600, ze_n6400, ze_n9600, ze_n32768, ze_n65535, ze_n65536, ze_n802, ze_n8191, ze_L0, ze_L1, ze_L2, ze_L3, ze_L4, ze_L5, ze_L6, ze_L7, ze_L8, ze_L9, ze_L10, ze_L15, ze_L16, ze_L24, ze_L40, ze_L48, ze_L63, ze_L64, ze_L127, ze_L255, ze_L400, ze_L1024, ze_L2047, ze_L65535]
      · show zs_Ref_map_L96_body _ x3 x4 k = _
        simp (disch := omega) only [zs_Ref_map_L96_body, r32, ↓zd_bnd, ↓zy_bm, if_true, if_false, ite_true, ite_false, ↓reduceIte, Bool.false_eq_true, Bool.true_eq_false, eq_self, true_and, and_true, false_and, and_false, reduceCtorEq, decide_true, decide_false, not_true_eq_false, not_false_eq_true, ze_ltT, ze_ltF, ze_leT, ze_leF, ze_eqT, ze_eqF, ze_mlt, ze_ltm, ze_mle, ze_lem, ze_meq, ze_eqm, ze_mm, ze_mltm, ze_inT, ze_inF, ze_inM, ze_cl, ze_fin, ze_decT, ze_decF, Nat.reduceSub, Nat.reduceMul, nI_add, Nat.add_sub_cancel, Nat.add_assoc, Nat.reduceAdd, ze_r8, ze_r24, ze_r40, ze_r400, ze_l8, ze_l16, ze_l24, ze_l40, ze_sub, ze_am1, ze_es, ze_en, ze_i64, ze_m64, ze_64i, ze_64m, ze_LltT, ze_LltF, ze_LleT, ze_LleF, ze_LeqT, ze_LeqF, ze_Lmlt, ze_Lltm, ze_Lmle, ze_Llem, ze_Lmeq, ze_Leqm, ze_Lmm, lN_add, ze_ch, ze_chd, ze_bt, ze_bf, ze_n0, ze_n1, ze_n2, ze_n3, ze_n4, ze_n5, ze_n6, ze_n7, ze_n8, ze_n9, ze_n10, ze_n11, ze_n12, ze_n13, ze_n14, ze_n15, ze_n16, ze_n17, ze_n18, ze_n19, ze_n20, ze_n21, ze_n22, ze_n23, ze_n24, ze_n25, ze_n26, ze_n27, ze_n28, ze_n29, ze_n30, ze_n31, ze_n32, ze_n33, ze_n34, ze_n35, ze_n36, ze_n37, ze_n38, ze_n39, ze_n40, ze_n48, ze_n63, ze_n64, ze_n65, ze_n80, ze_n100, ze_n128, ze_n200, ze_n255, ze_n300, ze_n320, ze_n384, ze_n400, ze_n512, ze_n1023, ze_n1600, ze_n6400, ze_n9600, ze_n32768, ze_n65535, ze_n65536, ze_n802, ze_n8191, ze_L0, ze_L1, ze_L2, ze_L3, ze_L4, ze_L5, ze_L6, ze_L7, ze_L8, ze_L9, ze_L10, ze_L15, ze_L16, ze_L24, ze_L40, ze_L48, ze_L63, ze_L64, ze_L127, ze_L255, ze_L400, ze_L1024, ze_L2047, ze_L65535]
  | succ d ih =>
    intro B G s k x6 F F2 L hP hx hF hF2
    obtain ⟨F, rfl⟩ : ∃ E, F = E + 1 := ⟨F - 1, by omega⟩
    obtain ⟨F2, rfl⟩ : ∃ E, F2 = E + 1 := ⟨F2 - 1, by omega⟩
    by_cases h : 0 < G.1.1
    · obtain ⟨s1, k1, e1, e2, e3⟩ := zm_turn HC HR K PQ L h
      have hpos : 0 < zm_Ph B G := by
        have I := L.2.2.2.2.2.2.1
        obtain ⟨i, hh⟩ : ∃ i, G.1.1 = i + 1 := ⟨G.1.1 - 1, by omega⟩
        unfold zm_Ph
        rw [hh]
        show 0 < 17 * (400 - zd_O B) + (zm_ps G.1.2 i + (17 - (G.1.2 i).2.2.2))
        have en := I.2.2.2.1 i (by omega)
        rcases en.2.2.2 with ⟨a1, a2, _, _, a5, _⟩ | ⟨_, a2, _, _, a5, _⟩
        · have hme := zd_ok_m K _ a1
          have hT := zd_ok_T K
          have := zd_ok_sz K (zd_mt A (G.1.2 i).1) (by omega)
          omega
        · have := (zd_ok_l5 K _ en.1 a2).1
          omega
      rcases e3 with f | ⟨B2, G2, L2, hP2⟩
      · obtain ⟨F, rfl⟩ : ∃ E, F = E + 1 := ⟨F - 1, by omega⟩
        obtain ⟨F2, rfl⟩ : ∃ E, F2 = E + 1 := ⟨F2 - 1, by omega⟩
        refine ⟨s1, k1, fun x4 => ?_, fun x3 x4 => ?_, Or.inl f⟩
        · refine (e1 (zx_loop (fun _ _ _ => none) zs_Mapper_run_L32_body (F + 1)) x4 x6 (by omega)).trans ?_
          exact zm_C_stop f.2.1 _ _ _
        · refine (e2 (zx_loop (fun _ _ _ => none) zs_Ref_map_L96_body (F2 + 1)) x3 x4).trans ?_
          exact zm_R_stop f.2.2.2 _ _ _
      · obtain ⟨s2, k2, g1, g2, g3⟩ := ih B2 G2 s1 k1 (x6 + 1) F F2 L2 (by omega) (by omega) (by omega) (by omega)
        refine ⟨s2, k2, fun x4 => ?_, fun x3 x4 => ?_, g3⟩
        · exact (e1 (zx_loop (fun _ _ _ => none) zs_Mapper_run_L32_body F) x4 x6 (by omega)).trans (g1 x4)
        · exact (e2 (zx_loop (fun _ _ _ => none) zs_Ref_map_L96_body F2) x3 x4).trans (g2 x3 x4)
    · have P := L.2.2.2.2.1
      have R := L.2.2.2.2.2.1
      have p10 := P.2.1
      have r32 := R.2.1
      rw [show G.1.1 = 0 by omega] at p10 r32
      refine ⟨s, k, fun x4 => ?_, fun x3 x4 => ?_, Or.inr ⟨B, G, L⟩⟩
      · show zs_Mapper_run_L32_body _ x4 (nI x6) s = _
        by_cases c : (6800 : Int32) ≤ nI x6
        · simp (disch := omega) only [zs_Mapper_run_L32_body, c, if_true]
        · simp (disch := omega) only [zs_Mapper_run_L32_body, c, p10, ↓zd_bnd, ↓zy_bm, if_true, if_false, ite_true, ite_false, ↓reduceIte, Bool.false_eq_true, Bool.true_eq_false, eq_self, true_and, and_true, false_and, and_false, reduceCtorEq, decide_true, decide_false, not_true_eq_false, not_false_eq_true, ze_ltT, ze_ltF, ze_leT, ze_leF, ze_eqT, ze_eqF, ze_mlt, ze_ltm, ze_mle, ze_lem, ze_meq, ze_eqm, ze_mm, ze_mltm, ze_inT, ze_inF, ze_inM, ze_cl, ze_fin, ze_decT, ze_decF, Nat.reduceSub, Nat.reduceMul, nI_add, Nat.add_sub_cancel, Nat.add_assoc, Nat.reduceAdd, ze_r8, ze_r24, ze_r40, ze_r400, ze_l8, ze_l16, ze_l24, ze_l40, ze_sub, ze_am1, ze_es, ze_en, ze_i64, ze_m64, ze_64i, ze_64m, ze_LltT, ze_LltF, ze_LleT, ze_LleF, ze_LeqT, ze_LeqF, ze_Lmlt, ze_Lltm, ze_Lmle, ze_Llem, ze_Lmeq, ze_Leqm, ze_Lmm, lN_add, ze_ch, ze_chd, ze_bt, ze_bf, ze_n0, ze_n1, ze_n2, ze_n3, ze_n4, ze_n5, ze_n6, ze_n7, ze_n8, ze_n9, ze_n10, ze_n11, ze_n12, ze_n13, ze_n14, ze_n15, ze_n16, ze_n17, ze_n18, ze_n19, ze_n20, ze_n21, ze_n22, ze_n23, ze_n24, ze_n25, ze_n26, ze_n27, ze_n28, ze_n29, ze_n30, ze_n31, ze_n32, ze_n33, ze_n34, ze_n35, ze_n36, ze_n37, ze_n38, ze_n39, ze_n40, ze_n48, ze_n63, ze_n64, ze_n65, ze_n80, ze_n100, ze_n128, ze_n200, ze_n255, ze_n300, ze_n320, ze_n384, ze_n400, ze_n512, ze_n1023, ze_n1600, ze_n6400, ze_n9600, ze_n32768, ze_n65535, ze_n65536, ze_n802, ze_n8191, ze_L0, ze_L1, ze_L2, ze_L3, ze_L4, ze_L5, ze_L6, ze_L7, ze_L8, ze_L9, ze_L10, ze_L15, ze_L16, ze_L24, ze_L40, ze_L48, ze_L63, ze_L64, ze_L127, ze_L255, ze_L400, ze_L1024, ze_L2047, ze_L65535]
      · show zs_Ref_map_L96_body _ x3 x4 k = _
        simp (disch := omega) only [zs_Ref_map_L96_body, r32, ↓zd_bnd, ↓zy_bm, if_true, if_false, ite_true, ite_false, ↓reduceIte, Bool.false_eq_true, Bool.true_eq_false, eq_self, true_and, and_true, false_and, and_false, reduceCtorEq, decide_true, decide_false, not_true_eq_false, not_false_eq_true, ze_ltT, ze_ltF, ze_leT, ze_leF, ze_eqT, ze_eqF, ze_mlt, ze_ltm, ze_mle, ze_lem, ze_meq, ze_eqm, ze_mm, ze_mltm, ze_inT, ze_inF, ze_inM, ze_cl, ze_fin, ze_decT, ze_decF, Nat.reduceSub, Nat.reduceMul, nI_add, Nat.add_sub_cancel, Nat.add_assoc, Nat.reduceAdd, ze_r8, ze_r24, ze_r40, ze_r400, ze_l8, ze_l16, ze_l24, ze_l40, ze_sub, ze_am1, ze_es, ze_en, ze_i64, ze_m64, ze_64i, ze_64m, ze_LltT, ze_LltF, ze_LleT, ze_LleF, ze_LeqT, ze_LeqF, ze_Lmlt, ze_Lltm, ze_Lmle, ze_Llem, ze_Lmeq, ze_Leqm, ze_Lmm, lN_add, ze_ch, ze_chd, ze_bt, ze_bf, ze_n0, ze_n1, ze_n2, ze_n3, ze_n4, ze_n5, ze_n6, ze_n7, ze_n8, ze_n9, ze_n10, ze_n11, ze_n12, ze_n13, ze_n14, ze_n15, ze_n16, ze_n17, ze_n18, ze_n19, ze_n20, ze_n21, ze_n22, ze_n23, ze_n24, ze_n25, ze_n26, ze_n27, ze_n28, ze_n29, ze_n30, ze_n31, ze_n32, ze_n33, ze_n34, ze_n35, ze_n36, ze_n37, ze_n38, ze_n39, ze_n40, ze_n48, ze_n63, ze_n64, ze_n65, ze_n80, ze_n100, ze_n128, ze_n200, ze_n255, ze_n300, ze_n320, ze_n384, ze_n400, ze_n512, ze_n1023, ze_n1600, ze_n6400, ze_n9600, ze_n32768, ze_n65535, ze_n65536, ze_n802, ze_n8191, ze_L0, ze_L1, ze_L2, ze_L3, ze_L4, ze_L5, ze_L6, ze_L7, ze_L8, ze_L9, ze_L10, ze_L15, ze_L16, ze_L24, ze_L40, ze_L48, ze_L63, ze_L64, ze_L127, ze_L255, ze_L400, ze_L1024, ze_L2047, ze_L65535]
theorem zm_fill (h : zx_H) : ∃ s, zs_Arrays_fill (-nI 1) h = some s ∧ (∀ j, j < 6400 → s.1 18 0 j = -nI 1) ∧ (∀ F, F ≠ 18 → s.1 F = h.1 F) ∧ s.2 = h.2 := by
  have key : ∀ d p F (s : zx_H), p + d = 6400 → d < F → (∀ j, j < p → s.1 18 0 j = -nI 1) → (∀ F, F ≠ 18 → s.1 F = h.1 F) → s.2 = h.2 → ∃ s1, zx_loop (fun _ _ _ _ => none) zs_Arrays_fill_L5_body F (-nI 1) (nI p) (nI 6400) s = some s1 ∧ (∀ j, j < 6400 → s1.1 18 0 j = -nI 1) ∧ (∀ F, F ≠ 18 → s1.1 F = h.1 F) ∧ s1.2 = h.2 := by
    intro d
    induction d with
    | zero =>
      intro p F s hp hF a b c
      obtain ⟨F, rfl⟩ : ∃ E, F = E + 1 := ⟨F - 1, by omega⟩
      have hp : p = 6400 := hp
      subst hp
      refine ⟨s, ?_, a, b, c⟩
      show zs_Arrays_fill_L5_body _ (-nI 1) (nI 6400) (nI 6400) s = _
      simp (disch := omega) only [zs_Arrays_fill_L5_body, ↓zd_bnd, ↓zy_bm, if_true, if_false, ite_true, ite_false, ↓reduceIte, Bool.false_eq_true, Bool.true_eq_false, eq_self, true_and, and_true, false_and, and_false, reduceCtorEq, decide_true, decide_false, not_true_eq_false, not_false_eq_true, ze_ltT, ze_ltF, ze_leT, ze_leF, ze_eqT, ze_eqF, ze_mlt, ze_ltm, ze_mle, ze_lem, ze_meq, ze_eqm, ze_mm, ze_mltm, ze_inT, ze_inF, ze_inM, ze_cl, ze_fin, ze_decT, ze_decF, Nat.reduceSub, Nat.reduceMul, nI_add, Nat.add_sub_cancel, Nat.add_assoc, Nat.reduceAdd, ze_r8, ze_r24, ze_r40, ze_r400, ze_l8, ze_l16, ze_l24, ze_l40, ze_sub, ze_am1, ze_es, ze_en, ze_i64, ze_m64, ze_64i, ze_64m, ze_LltT, ze_LltF, ze_LleT, ze_LleF, ze_LeqT, ze_LeqF, ze_Lmlt, ze_Lltm, ze_Lmle, ze_Llem, ze_Lmeq, ze_Leqm, ze_Lmm, lN_add, ze_ch, ze_chd, ze_bt, ze_bf, ze_n0, ze_n1, ze_n2, ze_n3, ze_n4, ze_n5, ze_n6, ze_n7, ze_n8, ze_n9, ze_n10, ze_n11, ze_n12, ze_n13, ze_n14, ze_n15, ze_n16, ze_n17, ze_n18, ze_n19, ze_n20, ze_n21, ze_n22, ze_n23, ze_n24, ze_n25, ze_n26, ze_n27, ze_n28, ze_n29, ze_n30, ze_n31, ze_n32, ze_n33, ze_n34, ze_n35, ze_n36, ze_n37, ze_n38, ze_n39, ze_n40, ze_n48, ze_n63, ze_n64, ze_n65, ze_n80, ze_n100, ze_n128, ze_n200, ze_n255, ze_n300, ze_n320, ze_n384, ze_n400, ze_n512, ze_n1023, ze_n1600, ze_n6400, ze_n9600, ze_n32768, ze_n65535, ze_n65536, ze_n802, ze_n8191, ze_L0, ze_L1, ze_L2, ze_L3, ze_L4, ze_L5, ze_L6, ze_L7, ze_L8, ze_L9, ze_L10, ze_L15, ze_L16, ze_L24, ze_L40, ze_L48, ze_L63, ze_L64, ze_L127, ze_L255, ze_L400, ze_L1024, ze_L2047, ze_L65535]
    | succ d ih =>
      intro p F s hp hF a b c
      obtain ⟨F, rfl⟩ : ∃ E, F = E + 1 := ⟨F - 1, by omega⟩
      obtain ⟨s1, e1, e2⟩ := ih (p + 1) F (zx_sI s 18 0 p (-nI 1)) (by omega) (by omega) (fun j hj => by
        by_cases cj : j = p
        · subst cj
          simp (disch := omega) only [ze_gIs, ze_gIn, ze_gJs, ze_gJn, zd_gI2, zd_gJ1, ze_sII]
        · have e := a j (by omega)
          simp (disch := omega) only [ze_gIs, ze_gIn, ze_gJs, ze_gJn, zd_gI2, zd_gJ1, ze_sII]
          exact e) (fun G hG => by rw [ze_sIF _ _ _ _ hG]; exact b G hG) c
      refine ⟨s1, ?_, e2⟩
      rw [← e1]
      show zs_Arrays_fill_L5_body _ (-nI 1) (nI p) (nI 6400) s = _
      simp (disch := omega) only [zs_Arrays_fill_L5_body, ↓zd_bnd, ↓zy_bm, if_true, if_false, ite_true, ite_false, ↓reduceIte, Bool.false_eq_true, Bool.true_eq_false, eq_self, true_and, and_true, false_and, and_false, reduceCtorEq, decide_true, decide_false, not_true_eq_false, not_false_eq_true, ze_ltT, ze_ltF, ze_leT, ze_leF, ze_eqT, ze_eqF, ze_mlt, ze_ltm, ze_mle, ze_lem, ze_meq, ze_eqm, ze_mm, ze_mltm, ze_inT, ze_inF, ze_inM, ze_cl, ze_fin, ze_decT, ze_decF, Nat.reduceSub, Nat.reduceMul, nI_add, Nat.add_sub_cancel, Nat.add_assoc, Nat.reduceAdd, ze_r8, ze_r24, ze_r40, ze_r400, ze_l8, ze_l16, ze_l24, ze_l40, ze_sub, ze_am1, ze_es, ze_en, ze_i64, ze_m64, ze_64i, ze_64m, ze_LltT, ze_LltF, ze_LleT, ze_LleF, ze_LeqT, ze_LeqF, ze_Lmlt, ze_Lltm, ze_Lmle, ze_Llem, ze_Lmeq, ze_Leqm, ze_Lmm, lN_add, ze_ch, ze_chd, ze_bt, ze_bf, ze_n0, ze_n1, ze_n2, ze_n3, ze_n4, ze_n5, ze_n6, ze_n7, ze_n8, ze_n9, ze_n10, ze_n11, ze_n12, ze_n13, ze_n14, ze_n15, ze_n16, ze_n17, ze_n18, ze_n19, ze_n20, ze_n21, ze_n22, ze_n23, ze_n24, ze_n25, ze_n26, ze_n27, ze_n28, ze_n29, ze_n30, ze_n31, ze_n32, ze_n33, ze_n34, ze_n35, ze_n36, ze_n37, ze_n38, ze_n39, ze_n40, ze_n48, ze_n63, ze_n64, ze_n65, ze_n80, ze_n100, ze_n128, ze_n200, ze_n255, ze_n300, ze_n320, ze_n384, ze_n400, ze_n512, ze_n1023, ze_n1600, ze_n6400, ze_n9600, ze_n32768, ze_n65535, ze_n65536, ze_n802, ze_n8191, ze_L0, ze_L1, ze_L2, ze_L3, ze_L4, ze_L5, ze_L6, ze_L7, ze_L8, ze_L9, ze_L10, ze_L15, ze_L16, ze_L24, ze_L40, ze_L48, ze_L63, ze_L64, ze_L127, ze_L255, ze_L400, ze_L1024, ze_L2047, ze_L65535]
      rfl
  obtain ⟨s, e1, e2⟩ := key 6400 0 zx_fuel h (by omega) (by unfold zx_fuel; omega) (fun j hj => absurd hj (Nat.not_lt_zero j)) (fun _ _ => rfl) rfl
  exact ⟨s, e1, e2⟩
/-- nothing waits, nothing is known -/
def zm_G0 : zm_G := ((0, fun _ => (0, 0, 0, 0)), (0, fun _ => (0, 0, 0)))
/-- a whole run, on both sides -/
theorem zm_run {A : zd_A} {hc hr : zx_H} (HC : zd_C A hc) (HR : zd_R A hr) (K : zd_ok A) (PQ : ∀ m, m < zd_M A → zp_PM A hc m ∧ zp_dm A m = none) {m : Nat} (hm : m < zd_M A) {v : Int64} (hv : zd_val A (zd_mf A m) v) {k : zx_H} (fk : zd_fR (zd_O A) hr k) (k23 : k.1 24 0 23 = nI (zd_O A)) (RP : zm_RP zm_G0 k) : ∃ w s' k', zs_Mapper_run (nI m) v hc = some (w, s') ∧ (∀ x3, (zs_Ref_mapped (nI m) v k).bind (fun r8 => zs_Ref_map_L96 x3 r8.1 r8.2) = zs_Ref_map_J138 x3 w k') ∧ (zm_fail A hc hr s' k' ∨ (s'.1 23 0 2 = nI 0 ∧ k'.1 24 0 37 = nI 0 ∧ k'.1 24 0 0 = nI 0 ∧ ∃ B, zd_C B s' ∧ zd_R B k' ∧ zd_ok B ∧ zm_ext A B ∧ zd_fC (zd_O A) hc s' ∧ zd_fR (zd_O A) hr k')) := by
  have hT := zd_ok_T K
  have hM := zd_ok_M K
  have hO := zd_ok_O K
  obtain ⟨s, e1, e2, e3, e4⟩ := zm_fill (zx_sI (zx_sI hc 23 0 2 (nI 0)) 17 0 10 (nI 0))
  have fc : zd_fC (zd_O A) hc s := by
    refine zd_fC_trans (zd_fC_I (zd_fC_I (zd_fC_refl _ hc) (nI 0) (F := 23) (i := 0) (j := 2) (by omega)) (nI 0) (F := 17) (i := 0) (j := 10) (by omega)) ⟨fun F h1 h2 => ⟨e3 F (by omega), by rw [e4]⟩, fun o ho => ⟨by rw [e3 8 (by decide)], by rw [e3 9 (by decide)]⟩, fun j hj => by rw [e4]⟩
  have c7 : s.1 7 0 4 = nI (zd_O A) := by
    rw [e3 7 (by decide)]; simp (disch := omega) only [ze_gIs, ze_gIn, ze_gJs, ze_gJn, zd_gI2, zd_gJ1, ze_sII]; exact zd_C_O HC
  have CP : zm_CP zm_G0 s := by
    refine ⟨?_, ?_, fun i hi => absurd hi (Nat.not_lt_zero i), fun a b ha hb => ?_⟩
    · rw [e3 23 (by decide)]; simp (disch := omega) only [ze_gIs, ze_gIn, ze_gJs, ze_gJn, zd_gI2, zd_gJ1, ze_sII]
    · rw [e3 17 (by decide)]; simp (disch := omega) only [ze_gIs, ze_gIn, ze_gJs, ze_gJn, zd_gI2, zd_gJ1, ze_sII]; rfl
    · rw [e2 _ (by omega)]; rfl
  have X : zm_C A hc s (zd_O A) := ⟨fc, c7, Nat.le_refl _, hO⟩
  have Y : zm_R A hr k (zd_O A) := ⟨fk, k23, Nat.le_refl _, hO⟩
  have E : zm_ext A A := ⟨zd_sA_refl A, Nat.le_refl _, fun _ _ => ⟨rfl, rfl, fun _ _ => rfl⟩⟩
  have I : zm_inv A hc A zm_G0 := ⟨by show 0 + _ ≤ _; omega, by show 0 + _ ≤ _; omega, fun j hj => absurd hj (Nat.not_lt_zero j), fun j hj => absurd hj (Nat.not_lt_zero j), fun i j _ hj => absurd hj (Nat.not_lt_zero j)⟩
  have HB : zd_C A s := zm_C_old HC K fc c7
  have RB : zd_R A k := zm_R_old HR K fk k23
  have hme := zd_ok_m K m hm
  have first : ∃ z : zm_Z, zm_CZ (zd_O A) s z (zs_Mapper_byMethod (nI m) v s) ∧ zm_RZ A hr (zd_O A) k z (zs_Ref_mapped (nI m) v k) ∧ zm_fitZ A (zd_mt A m) z ∧ zm_invZ A hc A zm_G0 z := by
    by_cases c4 : zd_srt A (zd_mt A m) = 4
    · exact zm_beanM HC HR K E rfl X Y CP RP I hm (PQ m hm).1 c4 hv
    · obtain ⟨x, x1, x2, x3, x4⟩ := zm_constM HC HR K E X Y CP RP hm (PQ m hm).1 (PQ m hm).2 (by omega) (by omega) hv
      refine ⟨zm_toZ zm_G0 x, zm_CX_Z X CP x1 x4, zm_RX_Z Y RP x2, ?_, zm_inv_toZ I x⟩
      cases x with
      | none => trivial
      | some y =>
        obtain ⟨w, ob⟩ := y
        obtain ⟨rfl, q⟩ := x3 w ob rfl
        exact q
  obtain ⟨z, z1, z2, z3, z4⟩ := first
  have run : ∀ w s1 s2, zs_Mapper_byMethod (nI m) v s = some (w, s1) → zs_Mapper_run_L32 w (nI 0) s1 = some (w, s2) → zs_Mapper_run (nI m) v hc = some (w, s2) := by
    intro w s1 s2 a b
    simp (disch := omega) only [zs_Mapper_run, e1, a, b, ↓zd_bnd, ↓zy_bm, if_true, if_false, ite_true, ite_false, ↓reduceIte, Bool.false_eq_true, Bool.true_eq_false, eq_self, true_and, and_true, false_and, and_false, reduceCtorEq, decide_true, decide_false, not_true_eq_false, not_false_eq_true, ze_ltT, ze_ltF, ze_leT, ze_leF, ze_eqT, ze_eqF, ze_mlt, ze_ltm, ze_mle, ze_lem, ze_meq, ze_eqm, ze_mm, ze_mltm, ze_inT, ze_inF, ze_inM, ze_cl, ze_fin, ze_decT, ze_decF, Nat.reduceSub, Nat.reduceMul, nI_add, Nat.add_sub_cancel, Nat.add_assoc, Nat.reduceAdd, ze_r8, ze_r24, ze_r40, ze_r400, ze_l8, ze_l16, ze_l24, ze_l40, ze_sub, ze_am1, ze_es, ze_en, ze_i64, ze_m64, ze_64i, ze_64m, ze_LltT, ze_LltF, ze_LleT, ze_LleF, ze_LeqT, ze_LeqF, ze_Lmlt, ze_Lltm, ze_Lmle, ze_Llem, ze_Lmeq, ze_Leqm, ze_Lmm, lN_add, ze_ch, ze_chd, ze_bt, ze_bf, ze_n0, ze_n1, ze_n2, ze_n3, ze_n4, ze_n5, ze_n6, ze_n7, ze_n8, ze_n9, ze_n10, ze_n11, ze_n12, ze_n13, ze_n14, ze_n15, ze_n16, ze_n17, ze_n18, ze_n19, ze_n20, ze_n21, ze_n22, ze_n23, ze_n24, ze_n25, ze_n26, ze_n27, ze_n28, ze_n29, ze_n30, ze_n31, ze_n32, ze_n33, ze_n34, ze_n35, ze_n36, ze_n37, ze_n38, ze_n39, ze_n40, ze_n48, ze_n63, ze_n64, ze_n65, ze_n80, ze_n100, ze_n128, ze_n200, ze_n255, ze_n300, ze_n320, ze_n384, ze_n400, ze_n512, ze_n1023, ze_n1600, ze_n6400, ze_n9600, ze_n32768, ze_n65535, ze_n65536, ze_n802, ze_n8191, ze_L0, ze_L1, ze_L2, ze_L3, ze_L4, ze_L5, ze_L6, ze_L7, ze_L8, ze_L9, ze_L10, ze_L15, ze_L16, ze_L24, ze_L40, ze_L48, ze_L63, ze_L64, ze_L127, ze_L255, ze_L400, ze_L1024, ze_L2047, ze_L65535]
  cases z with
  | none =>
    obtain ⟨w, s1, a1, a2, a3⟩ := z1
    obtain ⟨w2, k1, b1, b2, b3⟩ := z2
    refine ⟨w, s1, k1, run w s1 s1 a1 ?_, fun x3 => ?_, Or.inl ⟨zd_fC_trans fc a2, a3, b2, b3⟩⟩
    · show zs_Mapper_run_L32_body (zx_loop (fun _ _ _ => none) zs_Mapper_run_L32_body 9999) w (nI 0) s1 = _
      exact zm_C_stop a3 _ _ _
    · rw [b1]
      show zs_Ref_map_L96 x3 w2 k1 = _
      refine (zm_R_stop b3 _ _ _).trans ?_
      have n10 : (nI 1 = nI 0) = False := by decide
      simp (disch := omega) only [zs_Ref_map_J138, b3, n10, ↓zd_bnd, ↓zy_bm, if_true, if_false, ite_true, ite_false, ↓reduceIte, Bool.false_eq_true, Bool.true_eq_false, eq_self, true_and, and_true, false_and, and_false, reduceCtorEq, decide_true, decide_false, not_true_eq_false, not_false_eq_true, ze_ltT, ze_ltF, ze_leT, ze_leF, ze_eqT, ze_eqF, ze_mlt, ze_ltm, ze_mle, ze_lem, ze_meq, ze_eqm, ze_mm, ze_mltm, ze_inT, ze_inF, ze_inM, ze_cl, ze_fin, ze_decT, ze_decF, Nat.reduceSub, Nat.reduceMul, nI_add, Nat.add_sub_cancel, Nat.add_assoc, Nat.reduceAdd, ze_r8, ze_r24, ze_r40, ze_r400, ze_l8, ze_l16, ze_l24, ze_l40, ze_sub, ze_am1, ze_es, ze_en, ze_i64, ze_m64, ze_64i, ze_64m, ze_LltT, ze_LltF, ze_LleT, ze_LleF, ze_LeqT, ze_LeqF, ze_Lmlt, ze_Lltm, ze_Lmle, ze_Llem, ze_Lmeq, ze_Leqm, ze_Lmm, lN_add, ze_ch, ze_chd, ze_bt, ze_bf, ze_n0, ze_n1, ze_n2, ze_n3, ze_n4, ze_n5, ze_n6, ze_n7, ze_n8, ze_n9, ze_n10, ze_n11, ze_n12, ze_n13, ze_n14, ze_n15, ze_n16, ze_n17, ze_n18, ze_n19, ze_n20, ze_n21, ze_n22, ze_n23, ze_n24, ze_n25, ze_n26, ze_n27, ze_n28, ze_n29, ze_n30, ze_n31, ze_n32, ze_n33, ze_n34, ze_n35, ze_n36, ze_n37, ze_n38, ze_n39, ze_n40, ze_n48, ze_n63, ze_n64, ze_n65, ze_n80, ze_n100, ze_n128, ze_n200, ze_n255, ze_n300, ze_n320, ze_n384, ze_n400, ze_n512, ze_n1023, ze_n1600, ze_n6400, ze_n9600, ze_n32768, ze_n65535, ze_n65536, ze_n802, ze_n8191, ze_L0, ze_L1, ze_L2, ze_L3, ze_L4, ze_L5, ze_L6, ze_L7, ze_L8, ze_L9, ze_L10, ze_L15, ze_L16, ze_L24, ze_L40, ze_L48, ze_L63, ze_L64, ze_L127, ze_L255, ze_L400, ze_L1024, ze_L2047, ze_L65535]
  | some y =>
    obtain ⟨w, ob, G1⟩ := y
    obtain ⟨s1, a1, a2, a3, a4⟩ := z1
    obtain ⟨k1, b1, b2, b3, b4⟩ := z2
    have hOb := zm_hO rfl a4
    have K1 := zm_ok_new K (b := zd_mt A m) hme.2.1 hOb z3
    have L : zm_LS A hc hr (zm_new A ob) G1 s1 k1 := ⟨zm_C_new HB K rfl a2 a4, zm_R_new RB K rfl b2 b4, K1.1, zm_ext_new E ob, a3, b3, z4.1, zd_fC_trans fc a2, zd_fR_trans fk b2, fun j hj em => zm_strict_new z4.1 I z4.2 hj em (fun h => absurd h (Nat.not_lt_zero j)) hM⟩
    have ph : zm_Ph (zm_new A ob) G1 ≤ 6800 := by
      refine Nat.le_trans (zm_Ph_new hOb z4.2) ?_
      show 17 * (400 - zd_O A) + 0 ≤ 6800
      omega
    obtain ⟨s2, k2, g1, g2, g3⟩ := zm_loops HC HR K PQ 6800 _ _ _ _ 0 zx_fuel zx_fuel L ph (by omega) (by unfold zx_fuel; omega) (by unfold zx_fuel; omega)
    refine ⟨w, s2, k2, run w s1 s2 a1 (g1 w), fun x3 => ?_, ?_⟩
    · rw [b1]
      exact g2 x3 w
    · rcases g3 with f | ⟨B2, G2, L2⟩
      · exact Or.inl f
      · obtain ⟨l1, l2, l3, l4, l5, l6, l7, l8, l9, _⟩ := L2
        exact Or.inr ⟨l5.1, l6.1, l6.2.2.2.2.2, B2, l1, l2, l3, l4, l8, l9⟩
