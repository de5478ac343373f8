/-! the class plans all methods -/
def zp_mkn (A : zd_A) (m : Nat) : Bool := match zp_lr A m 8 with
  | some r => decide (zd_wh A m r = lN 1)
  | none => false
/-- what is wrong with a method, and where -/
def zp_dm (A : zd_A) (m : Nat) : Option (Nat × Int32) := if zp_ivb A m = false then some (1, -nI 1) else match zd_first (zp_rf A m) (zd_rc A m) with
  | some r => some (zp_wr A m r, nI r)
  | none => match zd_first (zp_qf A m) (zp_nm A m) with
    | some p => some (zp_wq A m p, nI p)
    | none => none
def zp_PM (A : zd_A) (k : zx_H) (m : Nat) : Prop := k.1 54 m 7 = zx_b (zp_mkn A m) ∧ ∀ p, p < zp_nm A m → zp_mem A k m p
theorem zp_rok_of {A : zd_A} {m : Nat} (h : zd_first (zp_rf A m) (zd_rc A m) = none) : zp_rok A m := fun r hr => by
  have := zd_first_none.mp h r hr
  unfold zp_rf at this
  exact Classical.not_not.mp (of_decide_eq_false this)
theorem zp_C_planMethod {A : zd_A} {h0 h : zx_H} (H : zd_C A h0) (K : zd_ok A) {m : Nat} (hm : m < zd_M A) (hm16 : m < 16) (D : zd_kD h0 h) (N : zp_N A h) (hf : h.1 16 0 4 = nI 0) (hp : h.1 16 0 6 = -nI 1) : ∃ k, zs_Planner_planMethod ⟨m, hm16⟩ h = some k ∧ zp_fM A m h k ∧ (match zp_dm A m with | none => k.1 16 0 4 = nI 0 ∧ k.1 16 0 6 = -nI 1 ∧ zp_PM A k m | some (n, q) => k.1 16 0 4 = nI n ∧ k.1 16 0 6 = q) := by
  have hT := zd_ok_T K
  have hme := zd_ok_m K m hm
  have hr24 := zd_ok_rc K m hm16
  have Hh := zq_C H D
  have Kh := zq_ok K (h.1 16 0 4) (h.1 16 0 5) (h.1 16 0 6)
  have iv := zp_C_planInverse Hh Kh (m := m) hm hm16
  rw [zq_ivb, zq_ivx] at iv
  unfold zp_dm
  cases hb : zp_ivb A m with
  | false =>
    rw [hb] at iv
    rw [if_pos rfl]
    refine ⟨zx_sI (zx_sI h 54 m 6 (zp_ivx A m)) 16 0 4 (nI 1), ?_, zp_fM_trans (zp_fM_54 h (Or.inl rfl) _) (zp_fM_16 _ (by decide) _), ze_gIs _ _ _ _ _, ?_⟩
    · simp (disch := omega) only [zs_Planner_planMethod, iv, ↓zd_bnd, ↓zy_bm, if_true, if_false, ite_true, ite_false, ↓reduceIte, Bool.false_eq_true, Bool.true_eq_false, eq_self, true_and, and_true, false_and, and_false, reduceCtorEq, decide_true, decide_false, not_true_eq_false, not_false_eq_true, ze_ltT, ze_ltF, ze_leT, ze_leF, ze_eqT, ze_eqF, ze_mlt, ze_ltm, ze_mle, ze_lem, ze_meq, ze_eqm, ze_mm, ze_mltm, ze_inT, ze_inF, ze_inM, ze_cl, ze_fin, ze_decT, ze_decF, Nat.reduceSub, Nat.reduceMul, nI_add, Nat.add_sub_cancel, Nat.add_assoc, Nat.reduceAdd, ze_r8, ze_r24, ze_r40, ze_r400, ze_l8, ze_l16, ze_l24, ze_l40, ze_sub, ze_am1, ze_es, ze_en, ze_i64, ze_m64, ze_64i, ze_64m, ze_LltT, ze_LltF, ze_LleT, ze_LleF, ze_LeqT, ze_LeqF, ze_Lmlt, ze_Lltm, ze_Lmle, ze_Llem, ze_Lmeq, ze_Leqm, ze_Lmm, lN_add, ze_ch, ze_chd, ze_bt, ze_bf, ze_n0, ze_n1, ze_n2, ze_n3, ze_n4, ze_n5, ze_n6, ze_n7, ze_n8, ze_n9, ze_n10, ze_n11, ze_n12, ze_n13, ze_n14, ze_n15, ze_n16, ze_n17, ze_n18, ze_n19, ze_n20, ze_n21, ze_n22, ze_n23, ze_n24, ze_n25, ze_n26, ze_n27, ze_n28, ze_n29, ze_n30, ze_n31, ze_n32, ze_n33, ze_n34, ze_n35, ze_n36, ze_n37, ze_n38, ze_n39, ze_n40, ze_n48, ze_n63, ze_n64, ze_n65, ze_n80, ze_n100, ze_n128, ze_n200, ze_n255, ze_n300, ze_n320, ze_n384, ze_n400, ze_n512, ze_n1023, ze_n1600, ze_n6400, ze_n9600, ze_n32768, ze_n65535, ze_n65536, ze_n802, ze_n8191, ze_L0, ze_L1, ze_L2, ze_L3, ze_L4, ze_L5, ze_L6, ze_L7, ze_L8, ze_L9, ze_L10, ze_L15, ze_L16, ze_L24, ze_L40, ze_L48, ze_L63, ze_L64, ze_L127, ze_L255, ze_L400, ze_L1024, ze_L2047, ze_L65535]
    · simp (disch := omega) only [ze_gIs, ze_gIn, ze_gJs, ze_gJn, zd_gI2, zd_gJ1, ze_sII]; exact hp
  | true =>
    rw [hb] at iv
    rw [if_neg (by decide)]
    have f1 : zp_fM A m h (zx_sI h 54 m 6 (zp_ivx A m)) := zp_fM_54 h (Or.inl rfl) _
    have D1 := zd_kD_trans D (zp_fM_kD f1)
    obtain ⟨k1, r1, r2, r3, r4⟩ := zp_C_rules H K hm hm16 D1 (by simp (disch := omega) only [ze_gIs, ze_gIn, ze_gJs, ze_gJn, zd_gI2, zd_gJ1, ze_sII]; exact hf)
    have f2 := zp_fM_trans f1 r2
    have D2 := zd_kD_trans D (zp_fM_kD f2)
    have H2 := zq_C H D2
    have K2 := zq_ok K (k1.1 16 0 4) (k1.1 16 0 5) (k1.1 16 0 6)
    have e0 : zs_Planner_planMethod ⟨m, hm16⟩ h = zs_Planner_planMethod_J48 ⟨m, hm16⟩ k1 := by
      simp (disch := omega) only [zs_Planner_planMethod, iv, r1, ↓zd_bnd, ↓zy_bm, if_true, if_false, ite_true, ite_false, ↓reduceIte, Bool.false_eq_true, Bool.true_eq_false, eq_self, true_and, and_true, false_and, and_false, reduceCtorEq, decide_true, decide_false, not_true_eq_false, not_false_eq_true, ze_ltT, ze_ltF, ze_leT, ze_leF, ze_eqT, ze_eqF, ze_mlt, ze_ltm, ze_mle, ze_lem, ze_meq, ze_eqm, ze_mm, ze_mltm, ze_inT, ze_inF, ze_inM, ze_cl, ze_fin, ze_decT, ze_decF, Nat.reduceSub, Nat.reduceMul, nI_add, Nat.add_sub_cancel, Nat.add_assoc, Nat.reduceAdd, ze_r8, ze_r24, ze_r40, ze_r400, ze_l8, ze_l16, ze_l24, ze_l40, ze_sub, ze_am1, ze_es, ze_en, ze_i64, ze_m64, ze_64i, ze_64m, ze_LltT, ze_LltF, ze_LleT, ze_LleF, ze_LeqT, ze_LeqF, ze_Lmlt, ze_Lltm, ze_Lmle, ze_Llem, ze_Lmeq, ze_Leqm, ze_Lmm, lN_add, ze_ch, ze_chd, ze_bt, ze_bf, ze_n0, ze_n1, ze_n2, ze_n3, ze_n4, ze_n5, ze_n6, ze_n7, ze_n8, ze_n9, ze_n10, ze_n11, ze_n12, ze_n13, ze_n14, ze_n15, ze_n16, ze_n17, ze_n18, ze_n19, ze_n20, ze_n21, ze_n22, ze_n23, ze_n24, ze_n25, ze_n26, ze_n27, ze_n28, ze_n29, ze_n30, ze_n31, ze_n32, ze_n33, ze_n34, ze_n35, ze_n36, ze_n37, ze_n38, ze_n39, ze_n40, ze_n48, ze_n63, ze_n64, ze_n65, ze_n80, ze_n100, ze_n128, ze_n200, ze_n255, ze_n300, ze_n320, ze_n384, ze_n400, ze_n512, ze_n1023, ze_n1600, ze_n6400, ze_n9600, ze_n32768, ze_n65535, ze_n65536, ze_n802, ze_n8191, ze_L0, ze_L1, ze_L2, ze_L3, ze_L4, ze_L5, ze_L6, ze_L7, ze_L8, ze_L9, ze_L10, ze_L15, ze_L16, ze_L24, ze_L40, ze_L48, ze_L63, ze_L64, ze_L127, ze_L255, ze_L400, ze_L1024, ze_L2047, ze_L65535]
    -- makesOfNull
    have e1 : zs_Planner_planMethod_J48 ⟨m, hm16⟩ k1 = zs_Planner_planMethod_J77 ⟨m, hm16⟩ ⟨m, hm16⟩ (zp_mkn A m) k1 := by
      have la := zp_C_latest H2 K2 (m := m) (k := 8) hm hm16 (by decide)
      have la : zs_Method_latest ⟨m, hm16⟩ (nI 8) k1 = some (zd_e (zp_lr A m 8)) := la
      unfold zp_mkn
      cases el : zp_lr A m 8 with
      | none =>
        rw [el] at la
        simp (disch := omega) only [zs_Planner_planMethod_J48, zs_Planner_planMethod_J76, la, ↓zd_bnd, ↓zy_bm, if_true, if_false, ite_true, ite_false, ↓reduceIte, Bool.false_eq_true, Bool.true_eq_false, eq_self, true_and, and_true, false_and, and_false, reduceCtorEq, decide_true, decide_false, not_true_eq_false, not_false_eq_true, ze_ltT, ze_ltF, ze_leT, ze_leF, ze_eqT, ze_eqF, ze_mlt, ze_ltm, ze_mle, ze_lem, ze_meq, ze_eqm, ze_mm, ze_mltm, ze_inT, ze_inF, ze_inM, ze_cl, ze_fin, ze_decT, ze_decF, Nat.reduceSub, Nat.reduceMul, nI_add, Nat.add_sub_cancel, Nat.add_assoc, Nat.reduceAdd, ze_r8, ze_r24, ze_r40, ze_r400, ze_l8, ze_l16, ze_l24, ze_l40, ze_sub, ze_am1, ze_es, ze_en, ze_i64, ze_m64, ze_64i, ze_64m, ze_LltT, ze_LltF, ze_LleT, ze_LleF, ze_LeqT, ze_LeqF, ze_Lmlt, ze_Lltm, ze_Lmle, ze_Llem, ze_Lmeq, ze_Leqm, ze_Lmm, lN_add, ze_ch, ze_chd, ze_bt, ze_bf, ze_n0, ze_n1, ze_n2, ze_n3, ze_n4, ze_n5, ze_n6, ze_n7, ze_n8, ze_n9, ze_n10, ze_n11, ze_n12, ze_n13, ze_n14, ze_n15, ze_n16, ze_n17, ze_n18, ze_n19, ze_n20, ze_n21, ze_n22, ze_n23, ze_n24, ze_n25, ze_n26, ze_n27, ze_n28, ze_n29, ze_n30, ze_n31, ze_n32, ze_n33, ze_n34, ze_n35, ze_n36, ze_n37, ze_n38, ze_n39, ze_n40, ze_n48, ze_n63, ze_n64, ze_n65, ze_n80, ze_n100, ze_n128, ze_n200, ze_n255, ze_n300, ze_n320, ze_n384, ze_n400, ze_n512, ze_n1023, ze_n1600, ze_n6400, ze_n9600, ze_n32768, ze_n65535, ze_n65536, ze_n802, ze_n8191, ze_L0, ze_L1, ze_L2, ze_L3, ze_L4, ze_L5, ze_L6, ze_L7, ze_L8, ze_L9, ze_L10, ze_L15, ze_L16, ze_L24, ze_L40, ze_L48, ze_L63, ze_L64, ze_L127, ze_L255, ze_L400, ze_L1024, ze_L2047, ze_L65535]
      | some r =>
        rw [el] at la
        have hr := (zp_lr_lt el).1
        have w57 : k1.2 57 m r = zd_wh A m r := zd_C_wh H2 m r hm hr
        by_cases c : zd_wh A m r = lN 1
        · simp (disch := omega) only [zs_Planner_planMethod_J48, zs_Planner_planMethod_J76, la, w57, c, ↓zd_bnd, ↓zy_bm, if_true, if_false, ite_true, ite_false, ↓reduceIte, Bool.false_eq_true, Bool.true_eq_false, eq_self, true_and, and_true, false_and, and_false, reduceCtorEq, decide_true, decide_false, not_true_eq_false, not_false_eq_true, ze_ltT, ze_ltF, ze_leT, ze_leF, ze_eqT, ze_eqF, ze_mlt, ze_ltm, ze_mle, ze_lem, ze_meq, ze_eqm, ze_mm, ze_mltm, ze_inT, ze_inF, ze_inM, ze_cl, ze_fin, ze_decT, ze_decF, Nat.reduceSub, Nat.reduceMul, nI_add, Nat.add_sub_cancel, Nat.add_assoc, Nat.reduceAdd, ze_r8, ze_r24, ze_r40, ze_r400, ze_l8, ze_l16, ze_l24, ze_l40, ze_sub, ze_am1, ze_es, ze_en, ze_i64, ze_m64, ze_64i, ze_64m, ze_LltT, ze_LltF, ze_LleT, ze_LleF, ze_LeqT, ze_LeqF, ze_Lmlt, ze_Lltm, ze_Lmle, ze_Llem, ze_Lmeq, ze_Leqm, ze_Lmm, lN_add, ze_ch, ze_chd, ze_bt, ze_bf, ze_n0, ze_n1, ze_n2, ze_n3, ze_n4, ze_n5, ze_n6, ze_n7, ze_n8, ze_n9, ze_n10, ze_n11, ze_n12, ze_n13, ze_n14, ze_n15, ze_n16, ze_n17, ze_n18, ze_n19, ze_n20, ze_n21, ze_n22, ze_n23, ze_n24, ze_n25, ze_n26, ze_n27, ze_n28, ze_n29, ze_n30, ze_n31, ze_n32, ze_n33, ze_n34, ze_n35, ze_n36, ze_n37, ze_n38, ze_n39, ze_n40, ze_n48, ze_n63, ze_n64, ze_n65, ze_n80, ze_n100, ze_n128, ze_n200, ze_n255, ze_n300, ze_n320, ze_n384, ze_n400, ze_n512, ze_n1023, ze_n1600, ze_n6400, ze_n9600, ze_n32768, ze_n65535, ze_n65536, ze_n802, ze_n8191, ze_L0, ze_L1, ze_L2, ze_L3, ze_L4, ze_L5, ze_L6, ze_L7, ze_L8, ze_L9, ze_L10, ze_L15, ze_L16, ze_L24, ze_L40, ze_L48, ze_L63, ze_L64, ze_L127, ze_L255, ze_L400, ze_L1024, ze_L2047, ze_L65535]
        · simp (disch := omega) only [zs_Planner_planMethod_J48, zs_Planner_planMethod_J76, la, w57, c, ↓zd_bnd, ↓zy_bm, if_true, if_false, ite_true, ite_false, ↓reduceIte, Bool.false_eq_true, Bool.true_eq_false, eq_self, true_and, and_true, false_and, and_false, reduceCtorEq, decide_true, decide_false, not_true_eq_false, not_false_eq_true, ze_ltT, ze_ltF, ze_leT, ze_leF, ze_eqT, ze_eqF, ze_mlt, ze_ltm, ze_mle, ze_lem, ze_meq, ze_eqm, ze_mm, ze_mltm, ze_inT, ze_inF, ze_inM, ze_cl, ze_fin, ze_decT, ze_decF, Nat.reduceSub, Nat.reduceMul, nI_add, Nat.add_sub_cancel, Nat.add_assoc, Nat.reduceAdd, ze_r8, ze_r24, ze_r40, ze_r400, ze_l8, ze_l16, ze_l24, ze_l40, ze_sub, ze_am1, ze_es, ze_en, ze_i64, ze_m64, ze_64i, ze_64m, ze_LltT, ze_LltF, ze_LleT, ze_LleF, ze_LeqT, ze_LeqF, ze_Lmlt, ze_Lltm, ze_Lmle, ze_Llem, ze_Lmeq, ze_Leqm, ze_Lmm, lN_add, ze_ch, ze_chd, ze_bt, ze_bf, ze_n0, ze_n1, ze_n2, ze_n3, ze_n4, ze_n5, ze_n6, ze_n7, ze_n8, ze_n9, ze_n10, ze_n11, ze_n12, ze_n13, ze_n14, ze_n15, ze_n16, ze_n17, ze_n18, ze_n19, ze_n20, ze_n21, ze_n22, ze_n23, ze_n24, ze_n25, ze_n26, ze_n27, ze_n28, ze_n29, ze_n30, ze_n31, ze_n32, ze_n33, ze_n34, ze_n35, ze_n36, ze_n37, ze_n38, ze_n39, ze_n40, ze_n48, ze_n63, ze_n64, ze_n65, ze_n80, ze_n100, ze_n128, ze_n200, ze_n255, ze_n300, ze_n320, ze_n384, ze_n400, ze_n512, ze_n1023, ze_n1600, ze_n6400, ze_n9600, ze_n32768, ze_n65535, ze_n65536, ze_n802, ze_n8191, ze_L0, ze_L1, ze_L2, ze_L3, ze_L4, ze_L5, ze_L6, ze_L7, ze_L8, ze_L9, ze_L10, ze_L15, ze_L16, ze_L24, ze_L40, ze_L48, ze_L63, ze_L64, ze_L127, ze_L255, ze_L400, ze_L1024, ze_L2047, ze_L65535]
    have f3 : zp_fM A m h (zx_sI k1 54 m 7 (zx_b (zp_mkn A m))) := zp_fM_trans f2 (zp_fM_54 k1 (Or.inr rfl) _)
    have D3 := zd_kD_trans D (zp_fM_kD f3)
    have H3 := zq_C H D3
    have K3 := zq_ok K ((zx_sI k1 54 m 7 (zx_b (zp_mkn A m))).1 16 0 4) ((zx_sI k1 54 m 7 (zx_b (zp_mkn A m))).1 16 0 5) ((zx_sI k1 54 m 7 (zx_b (zp_mkn A m))).1 16 0 6)
    have e2 : zs_Planner_planMethod_J77 ⟨m, hm16⟩ ⟨m, hm16⟩ (zp_mkn A m) k1 = zs_Planner_planMethod_L119 ⟨m, hm16⟩ (decide (zd_srt A (zd_mt A m) = 4)) (nI (zp_nm A m)) (nI 0) (zx_sI k1 54 m 7 (zx_b (zp_mkn A m))) := by
      have cmt : (zx_sI k1 54 m 7 (zx_b (zp_mkn A m))).1 54 m 1 = nI (zd_mt A m) := zd_C_mt H3 m hm
      have cmf : (zx_sI k1 54 m 7 (zx_b (zp_mkn A m))).1 54 m 0 = nI (zd_mf A m) := zd_C_mf H3 m hm
      have ib : zs_Types_isBean (nI (zd_mt A m)) (zx_sI k1 54 m 7 (zx_b (zp_mkn A m))) = some (decide (zd_srt A (zd_mt A m) = 4)) := zd_C_isBean H3 K3 hme.2.1
      have m1 : zs_Types_memberCount (nI (zd_mt A m)) (zx_sI k1 54 m 7 (zx_b (zp_mkn A m))) = some (nI (zd_sz A (zd_mt A m))) := zf_C_memberCount H3 K3 hme.2.1
      have m2 : zs_Types_memberCount (nI (zd_mf A m)) (zx_sI k1 54 m 7 (zx_b (zp_mkn A m))) = some (nI (zd_sz A (zd_mf A m))) := zf_C_memberCount H3 K3 hme.1
      unfold zp_nm
      unfold zs_Planner_planMethod_J77
      generalize (zx_sI k1 54 m 7 (zx_b (zp_mkn A m))) = k2 at *
      by_cases c : zd_srt A (zd_mt A m) = 4
      · rw [if_pos c]
        rw [decide_eq_true c] at ib
        simp (disch := omega) only [zs_Planner_planMethod_J111, cmt, ib, m1, c, ↓zd_bnd, ↓zy_bm, if_true, if_false, ite_true, ite_false, ↓reduceIte, Bool.false_eq_true, Bool.true_eq_false, eq_self, true_and, and_true, false_and, and_false, reduceCtorEq, decide_true, decide_false, not_true_eq_false, not_false_eq_true, ze_ltT, ze_ltF, ze_leT, ze_leF, ze_eqT, ze_eqF, ze_mlt, ze_ltm, ze_mle, ze_lem, ze_meq, ze_eqm, ze_mm, ze_mltm, ze_inT, ze_inF, ze_inM, ze_cl, ze_fin, ze_decT, ze_decF, Nat.reduceSub, Nat.reduceMul, nI_add, Nat.add_sub_cancel, Nat.add_assoc, Nat.reduceAdd, ze_r8, ze_r24, ze_r40, ze_r400, ze_l8, ze_l16, ze_l24, ze_l40, ze_sub, ze_am1, ze_es, ze_en, ze_i64, ze_m64, ze_64i, ze_64m, ze_LltT, ze_LltF, ze_LleT, ze_LleF, ze_LeqT, ze_LeqF, ze_Lmlt, ze_Lltm, ze_Lmle, ze_Llem, ze_Lmeq, ze_Leqm, ze_Lmm, lN_add, ze_ch, ze_chd, ze_bt, ze_bf, ze_n0, ze_n1, ze_n2, ze_n3, ze_n4, ze_n5, ze_n6, ze_n7, ze_n8, ze_n9, ze_n10, ze_n11, ze_n12, ze_n13, ze_n14, ze_n15, ze_n16, ze_n17, ze_n18, ze_n19, ze_n20, ze_n21, ze_n22, ze_n23, ze_n24, ze_n25, ze_n26, ze_n27, ze_n28, ze_n29, ze_n30, ze_n31, ze_n32, ze_n33, ze_n34, ze_n35, ze_n36, ze_n37, ze_n38, ze_n39, ze_n40, ze_n48, ze_n63, ze_n64, ze_n65, ze_n80, ze_n100, ze_n128, ze_n200, ze_n255, ze_n300, ze_n320, ze_n384, ze_n400, ze_n512, ze_n1023, ze_n1600, ze_n6400, ze_n9600, ze_n32768, ze_n65535, ze_n65536, ze_n802, ze_n8191, ze_L0, ze_L1, ze_L2, ze_L3, ze_L4, ze_L5, ze_L6, ze_L7, ze_L8, ze_L9, ze_L10, ze_L15, ze_L16, ze_L24, ze_L40, ze_L48, ze_L63, ze_L64, ze_L127, ze_L255, ze_L400, ze_L1024, ze_L2047, ze_L65535]
      · rw [if_neg c]
        rw [decide_eq_false c] at ib
        simp (disch := omega) only [zs_Planner_planMethod_J111, cmt, cmf, ib, m2, c, ↓zd_bnd, ↓zy_bm, if_true, if_false, ite_true, ite_false, ↓reduceIte, Bool.false_eq_true, Bool.true_eq_false, eq_self, true_and, and_true, false_and, and_false, reduceCtorEq, decide_true, decide_false, not_true_eq_false, not_false_eq_true, ze_ltT, ze_ltF, ze_leT, ze_leF, ze_eqT, ze_eqF, ze_mlt, ze_ltm, ze_mle, ze_lem, ze_meq, ze_eqm, ze_mm, ze_mltm, ze_inT, ze_inF, ze_inM, ze_cl, ze_fin, ze_decT, ze_decF, Nat.reduceSub, Nat.reduceMul, nI_add, Nat.add_sub_cancel, Nat.add_assoc, Nat.reduceAdd, ze_r8, ze_r24, ze_r40, ze_r400, ze_l8, ze_l16, ze_l24, ze_l40, ze_sub, ze_am1, ze_es, ze_en, ze_i64, ze_m64, ze_64i, ze_64m, ze_LltT, ze_LltF, ze_LleT, ze_LleF, ze_LeqT, ze_LeqF, ze_Lmlt, ze_Lltm, ze_Lmle, ze_Llem, ze_Lmeq, ze_Leqm, ze_Lmm, lN_add, ze_ch, ze_chd, ze_bt, ze_bf, ze_n0, ze_n1, ze_n2, ze_n3, ze_n4, ze_n5, ze_n6, ze_n7, ze_n8, ze_n9, ze_n10, ze_n11, ze_n12, ze_n13, ze_n14, ze_n15, ze_n16, ze_n17, ze_n18, ze_n19, ze_n20, ze_n21, ze_n22, ze_n23, ze_n24, ze_n25, ze_n26, ze_n27, ze_n28, ze_n29, ze_n30, ze_n31, ze_n32, ze_n33, ze_n34, ze_n35, ze_n36, ze_n37, ze_n38, ze_n39, ze_n40, ze_n48, ze_n63, ze_n64, ze_n65, ze_n80, ze_n100, ze_n128, ze_n200, ze_n255, ze_n300, ze_n320, ze_n384, ze_n400, ze_n512, ze_n1023, ze_n1600, ze_n6400, ze_n9600, ze_n32768, ze_n65535, ze_n65536, ze_n802, ze_n8191, ze_L0, ze_L1, ze_L2, ze_L3, ze_L4, ze_L5, ze_L6, ze_L7, ze_L8, ze_L9, ze_L10, ze_L15, ze_L16, ze_L24, ze_L40, ze_L48, ze_L63, ze_L64, ze_L127, ze_L255, ze_L400, ze_L1024, ze_L2047, ze_L65535]
    cases er : zd_first (zp_rf A m) (zd_rc A m) with
    | some r =>
      rw [er] at r4
      have r4 : k1.1 16 0 4 = nI (zp_wr A m r) ∧ k1.1 16 0 6 = nI r := r4
      have w8 := zp_wr8 A m r
      have wne : zp_wr A m r ≠ 0 := of_decide_eq_true (zd_first_some.mp er).2.1
      refine ⟨zx_sI k1 54 m 7 (zx_b (zp_mkn A m)), ?_, f3, ?_, ?_⟩
      · rw [e0, e1, e2]
        have c4 : (zx_sI k1 54 m 7 (zx_b (zp_mkn A m))).1 16 0 4 = nI (zp_wr A m r) := by
          rw [ze_gIn _ _ _ _ _ _ _ _ (by omega)]; exact r4.1
        have hn8 : zp_nm A m ≤ 8 := by
          unfold zp_nm
          have := zd_ok_sz K (zd_mt A m) (by omega)
          have := zd_ok_sz K (zd_mf A m) (by omega)
          by_cases c : zd_srt A (zd_mt A m) = 4
          · rw [if_pos c]; omega
          · rw [if_neg c]; omega
        show zs_Planner_planMethod_L119_body (zx_loop (fun _ _ _ _ _ => none) zs_Planner_planMethod_L119_body 9999) (⟨m, hm16⟩ : Fin 16) _ (nI (zp_nm A m)) (nI 0) (zx_sI k1 54 m 7 (zx_b (zp_mkn A m))) = _
        by_cases z : zp_nm A m = 0
        · simp (disch := omega) only [zs_Planner_planMethod_L119_body, ↓zd_bnd, ↓zy_bm, if_true, if_false, ite_true, ite_false, ↓reduceIte, Bool.false_eq_true, Bool.true_eq_false, eq_self, true_and, and_true, false_and, and_false, reduceCtorEq, decide_true, decide_false, not_true_eq_false, not_false_eq_true, ze_ltT, ze_ltF, ze_leT, ze_leF, ze_eqT, ze_eqF, ze_mlt, ze_ltm, ze_mle, ze_lem, ze_meq, ze_eqm, ze_mm, ze_mltm, ze_inT, ze_inF, ze_inM, ze_cl, ze_fin, ze_decT, ze_decF, Nat.reduceSub, Nat.reduceMul, nI_add, Nat.add_sub_cancel, Nat.add_assoc, Nat.reduceAdd, ze_r8, ze_r24, ze_r40, ze_r400, ze_l8, ze_l16, ze_l24, ze_l40, ze_sub, ze_am1, ze_es, ze_en, ze_i64, ze_m64, ze_64i, ze_64m, ze_LltT, ze_LltF, ze_LleT, ze_LleF, ze_LeqT, ze_LeqF, ze_Lmlt, ze_Lltm, ze_Lmle, ze_Llem, ze_Lmeq, ze_Leqm, ze_Lmm, lN_add, ze_ch, ze_chd, ze_bt, ze_bf, ze_n0, ze_n1, ze_n2, ze_n3, ze_n4, ze_n5, ze_n6, ze_n7, ze_n8, ze_n9, ze_n10, ze_n11, ze_n12, ze_n13, ze_n14, ze_n15, ze_n16, ze_n17, ze_n18, ze_n19, ze_n20, ze_n21, ze_n22, ze_n23, ze_n24, ze_n25, ze_n26, ze_n27, ze_n28, ze_n29, ze_n30, ze_n31, ze_n32, ze_n33, ze_n34, ze_n35, ze_n36, ze_n37, ze_n38, ze_n39, ze_n40, ze_n48, ze_n63, ze_n64, ze_n65, ze_n80, ze_n100, ze_n128, ze_n200, ze_n255, ze_n300, ze_n320, ze_n384, ze_n400, ze_n512, ze_n1023, ze_n1600, ze_n6400, ze_n9600, ze_n32768, ze_n65535, ze_n65536, ze_n802, ze_n8191, ze_L0, ze_L1, ze_L2, ze_L3, ze_L4, ze_L5, ze_L6, ze_L7, ze_L8, ze_L9, ze_L10, ze_L15, ze_L16, ze_L24, ze_L40, ze_L48, ze_L63, ze_L64, ze_L127, ze_L255, ze_L400, ze_L1024, ze_L2047, ze_L65535]
        · simp (disch := omega) only [zs_Planner_planMethod_L119_body, c4, ↓zd_bnd, ↓zy_bm, if_true, if_false, ite_true, ite_false, ↓reduceIte, Bool.false_eq_true, Bool.true_eq_false, eq_self, true_and, and_true, false_and, and_false, reduceCtorEq, decide_true, decide_false, not_true_eq_false, not_false_eq_true, ze_ltT, ze_ltF, ze_leT, ze_leF, ze_eqT, ze_eqF, ze_mlt, ze_ltm, ze_mle, ze_lem, ze_meq, ze_eqm, ze_mm, ze_mltm, ze_inT, ze_inF, ze_inM, ze_cl, ze_fin, ze_decT, ze_decF, Nat.reduceSub, Nat.reduceMul, nI_add, Nat.add_sub_cancel, Nat.add_assoc, Nat.reduceAdd, ze_r8, ze_r24, ze_r40, ze_r400, ze_l8, ze_l16, ze_l24, ze_l40, ze_sub, ze_am1, ze_es, ze_en, ze_i64, ze_m64, ze_64i, ze_64m, ze_LltT, ze_LltF, ze_LleT, ze_LleF, ze_LeqT, ze_LeqF, ze_Lmlt, ze_Lltm, ze_Lmle, ze_Llem, ze_Lmeq, ze_Leqm, ze_Lmm, lN_add, ze_ch, ze_chd, ze_bt, ze_bf, ze_n0, ze_n1, ze_n2, ze_n3, ze_n4, ze_n5, ze_n6, ze_n7, ze_n8, ze_n9, ze_n10, ze_n11, ze_n12, ze_n13, ze_n14, ze_n15, ze_n16, ze_n17, ze_n18, ze_n19, ze_n20, ze_n21, ze_n22, ze_n23, ze_n24, ze_n25, ze_n26, ze_n27, ze_n28, ze_n29, ze_n30, ze_n31, ze_n32, ze_n33, ze_n34, ze_n35, ze_n36, ze_n37, ze_n38, ze_n39, ze_n40, ze_n48, ze_n63, ze_n64, ze_n65, ze_n80, ze_n100, ze_n128, ze_n200, ze_n255, ze_n300, ze_n320, ze_n384, ze_n400, ze_n512, ze_n1023, ze_n1600, ze_n6400, ze_n9600, ze_n32768, ze_n65535, ze_n65536, ze_n802, ze_n8191, ze_L0, ze_L1, ze_L2, ze_L3, ze_L4, ze_L5, ze_L6, ze_L7, ze_L8, ze_L9, ze_L10, ze_L15, ze_L16, ze_L24, ze_L40, ze_L48, ze_L63, ze_L64, ze_L127, ze_L255, ze_L400, ze_L1024, ze_L2047, ze_L65535]
      · rw [ze_gIn _ _ _ _ _ _ _ _ (by omega)]; exact r4.1
      · rw [ze_gIn _ _ _ _ _ _ _ _ (by omega)]; exact r4.2
    | none =>
      rw [er] at r4
      have r4 : k1.1 16 0 4 = nI 0 ∧ k1.1 16 0 6 = (zx_sI h 54 m 6 (zp_ivx A m)).1 16 0 6 := r4
      have R := zp_rok_of er
      have i6 : (zx_sI k1 54 m 7 (zx_b (zp_mkn A m))).1 54 m 6 = zp_ivx A m := by
        rw [ze_gIn _ _ _ _ _ _ _ _ (by omega), r3]; exact ze_gIs _ _ _ _ _
      obtain ⟨k3, t1, t2, t3, t4⟩ := zp_C_members H K hm hm16 D3 (zp_fM_N f3 N) R i6 (by rw [ze_gIn _ _ _ _ _ _ _ _ (by omega)]; exact r4.1)
      have g6 : (zx_sI k1 54 m 7 (zx_b (zp_mkn A m))).1 16 0 6 = -nI 1 := by
        rw [ze_gIn _ _ _ _ _ _ _ _ (by omega), r4.2, ze_gIn _ _ _ _ _ _ _ _ (by omega)]; exact hp
      refine ⟨k3, by rw [e0, e1, e2]; exact t1, zp_fM_trans f3 t2, ?_⟩
      show (match (match zd_first (zp_qf A m) (zp_nm A m) with | some p => some (zp_wq A m p, nI p) | none => none) with | none => _ | some (n, q) => _)
      cases eq : zd_first (zp_qf A m) (zp_nm A m) with
      | some p =>
        rw [eq] at t4
        exact t4
      | none =>
        rw [eq] at t4
        have t4 : k3.1 16 0 4 = nI 0 ∧ k3.1 16 0 6 = (zx_sI k1 54 m 7 (zx_b (zp_mkn A m))).1 16 0 6 ∧ ∀ p, p < zp_nm A m → zp_mem A k3 m p := t4
        exact ⟨t4.1, t4.2.1.trans g6, by rw [t3]; exact ze_gIs _ _ _ _ _, t4.2.2⟩
/-- which functions are named -/
def zp_fN (h k : zx_H) : Prop := (∀ F, F ≠ 53 → k.1 F = h.1 F) ∧ k.2 = h.2 ∧ (∀ i j, j ≠ 4 → k.1 53 i j = h.1 53 i j)
theorem zp_fN_set {h k : zx_H} (x : zp_fN h k) (f : Nat) (v : Int32) : zp_fN h (zx_sI k 53 f 4 v) := ⟨fun F hF => (ze_sIF _ _ _ _ hF).trans (x.1 F hF), x.2.1, fun i j hj => (ze_gIn _ _ _ _ _ _ _ _ (fun e => hj e.2.2)).trans (x.2.2 i j hj)⟩
theorem zp_fN_k {h k : zx_H} (x : zp_fN h k) : zd_kC h k := ⟨fun F hF => x.1 F (by omega), x.1 16 (by decide), fun i j hj => x.2.2 i j (by omega), fun i j _ => by rw [x.1 54 (by decide)], x.1 55 (by decide), x.1 56 (by decide), by rw [x.2.1], by rw [x.2.1]⟩
theorem zp_C_nameFunctions {A : zd_A} {h : zx_H} (H : zd_C A h) (K : zd_ok A) : ∃ k, zs_Model_nameFunctions h = some k ∧ zp_fN h k ∧ zp_N A k := by
  have hM := zd_ok_M K
  have hF := zd_ok_F K
  -- rules of a method
  have inner : ∀ (k28 : Int32 → zx_H → Option zx_H) (m : Nat) (hm : m < zd_M A) (hm16 : m < 16) d r F (s : zx_H) (a : Nat → Bool), r + d = zd_rc A m → d < F → zp_fN h s → (∀ f, f < zd_F A → s.1 53 f 4 = zx_b (zd_fold (fun r s => s || zp_nc A f m r) (a f) r)) → ∃ k, zx_loop (fun _ _ _ _ => none) (zs_Model_nameFunctions_L45_body k28) F (nI m) (⟨m, hm16⟩ : Fin 16) (nI r) s = k28 (nI (m + 1)) k ∧ zp_fN h k ∧ (∀ f, f < zd_F A → k.1 53 f 4 = zx_b (zd_fold (fun r s => s || zp_nc A f m r) (a f) (zd_rc A m))) := by
    intro k28 m hm hm16 d
    have hr24 := zd_ok_rc K m hm16
    have hkd := zd_ok_kd K m
    induction d with
    | zero =>
      intro r F s a hr hF x v
      obtain ⟨F, rfl⟩ : ∃ G, F = G + 1 := ⟨F - 1, by omega⟩
      have hr : r = zd_rc A m := hr
      have Hs := zd_C_k (zp_fN_k x) H
      refine ⟨s, ?_, x, by rw [← hr]; exact v⟩
      show zs_Model_nameFunctions_L45_body k28 _ (nI m) (⟨m, hm16⟩ : Fin 16) (nI r) s = _
      simp (disch := omega) only [zs_Model_nameFunctions_L45_body, zd_C_rc Hs, hr, ↓zd_bnd, ↓zy_bm, if_true, if_false, ite_true, ite_false, ↓reduceIte, Bool.false_eq_true, Bool.true_eq_false, eq_self, true_and, and_true, false_and, and_false, reduceCtorEq, decide_true, decide_false, not_true_eq_false, not_false_eq_true, ze_ltT, ze_ltF, ze_leT, ze_leF, ze_eqT, ze_eqF, ze_mlt, ze_ltm, ze_mle, ze_lem, ze_meq, ze_eqm, ze_mm, ze_mltm, ze_inT, ze_inF, ze_inM, ze_cl, ze_fin, ze_decT, ze_decF, Nat.reduceSub, Nat.reduceMul, nI_add, Nat.add_sub_cancel, Nat.add_assoc, Nat.reduceAdd, ze_r8, ze_r24, ze_r40, ze_r400, ze_l8, ze_l16, ze_l24, ze_l40, ze_sub, ze_am1, ze_es, ze_en, ze_i64, ze_m64, ze_64i, ze_64m, ze_LltT, ze_LltF, ze_LleT, ze_LleF, ze_LeqT, ze_LeqF, ze_Lmlt, ze_Lltm, ze_Lmle, ze_Llem, ze_Lmeq, ze_Leqm, ze_Lmm, lN_add, ze_ch, ze_chd, ze_bt, ze_bf, ze_n0, ze_n1, ze_n2, ze_n3, ze_n4, ze_n5, ze_n6, ze_n7, ze_n8, ze_n9, ze_n10, ze_n11, ze_n12, ze_n13, ze_n14, ze_n15, ze_n16, ze_n17, ze_n18, ze_n19, ze_n20, ze_n21, ze_n22, ze_n23, ze_n24, ze_n25, ze_n26, ze_n27, ze_n28, ze_n29, ze_n30, ze_n31, ze_n32, ze_n33, ze_n34, ze_n35, ze_n36, ze_n37, ze_n38, ze_n39, ze_n40, ze_n48, ze_n63, ze_n64, ze_n65, ze_n80, ze_n100, ze_n128, ze_n200, ze_n255, ze_n300, ze_n320, ze_n384, ze_n400, ze_n512, ze_n1023, ze_n1600, ze_n6400, ze_n9600, ze_n32768, ze_n65535, ze_n65536, ze_n802, ze_n8191, ze_L0, ze_L1, ze_L2, ze_L3, ze_L4, ze_L5, ze_L6, ze_L7, ze_L8, ze_L9, ze_L10, ze_L15, ze_L16, ze_L24, ze_L40, ze_L48, ze_L63, ze_L64, ze_L127, ze_L255, ze_L400, ze_L1024, ze_L2047, ze_L65535]
    | succ d ih =>
      intro r F s a hr hF x v
      obtain ⟨F, rfl⟩ : ∃ G, F = G + 1 := ⟨F - 1, by omega⟩
      have Hs := zd_C_k (zp_fN_k x) H
      have := hkd r hm (by omega)
      by_cases c1 : zd_kd A m r = 4
      · rcases zf_tyL (zd_wh A m r) (n := zd_F A) (by omega) with hw | ⟨f, hf, hw⟩
        · obtain ⟨k, e1, e2⟩ := ih (r + 1) F s a (by omega) (by omega) x (fun g hg => by
            rw [v g hg]
            show _ = zx_b (zd_fold _ (a g) r || zp_nc A g m r)
            rw [show zp_nc A g m r = false by unfold zp_nc; rw [decide_eq_false (zn_outL_ne (by omega) hw hg), Bool.and_false], Bool.or_false])
          refine ⟨k, ?_, e2⟩
          rw [← e1]
          show zs_Model_nameFunctions_L45_body k28 _ (nI m) (⟨m, hm16⟩ : Fin 16) (nI r) s = _
          simp (disch := omega) only [zs_Model_nameFunctions_L45_body, zs_Model_nameFunctions_J92, zd_C_rc Hs, zd_C_kd Hs, zd_C_wh Hs, zf_C_hasFunctionO Hs K hw, c1, ↓zd_bnd, ↓zy_bm, if_true, if_false, ite_true, ite_false, ↓reduceIte, Bool.false_eq_true, Bool.true_eq_false, eq_self, true_and, and_true, false_and, and_false, reduceCtorEq, decide_true, decide_false, not_true_eq_false, not_false_eq_true, ze_ltT, ze_ltF, ze_leT, ze_leF, ze_eqT, ze_eqF, ze_mlt, ze_ltm, ze_mle, ze_lem, ze_meq, ze_eqm, ze_mm, ze_mltm, ze_inT, ze_inF, ze_inM, ze_cl, ze_fin, ze_decT, ze_decF, Nat.reduceSub, Nat.reduceMul, nI_add, Nat.add_sub_cancel, Nat.add_assoc, Nat.reduceAdd, ze_r8, ze_r24, ze_r40, ze_r400, ze_l8, ze_l16, ze_l24, ze_l40, ze_sub, ze_am1, ze_es, ze_en, ze_i64, ze_m64, ze_64i, ze_64m, ze_LltT, ze_LltF, ze_LleT, ze_LleF, ze_LeqT, ze_LeqF, ze_Lmlt, ze_Lltm, ze_Lmle, ze_Llem, ze_Lmeq, ze_Leqm, ze_Lmm, lN_add, ze_ch, ze_chd, ze_bt, ze_bf, ze_n0, ze_n1, ze_n2, ze_n3, ze_n4, ze_n5, ze_n6, ze_n7, ze_n8, ze_n9, ze_n10, ze_n11, ze_n12, ze_n13, ze_n14, ze_n15, ze_n16, ze_n17, ze_n18, ze_n19, ze_n20, ze_n21, ze_n22, ze_n23, ze_n24, ze_n25, ze_n26, ze_n27, ze_n28, ze_n29, ze_n30, ze_n31, ze_n32, ze_n33, ze_n34, ze_n35, ze_n36, ze_n37, ze_n38, ze_n39, ze_n40, ze_n48, ze_n63, ze_n64, ze_n65, ze_n80, ze_n100, ze_n128, ze_n200, ze_n255, ze_n300, ze_n320, ze_n384, ze_n400, ze_n512, ze_n1023, ze_n1600, ze_n6400, ze_n9600, ze_n32768, ze_n65535, ze_n65536, ze_n802, ze_n8191, ze_L0, ze_L1, ze_L2, ze_L3, ze_L4, ze_L5, ze_L6, ze_L7, ze_L8, ze_L9, ze_L10, ze_L15, ze_L16, ze_L24, ze_L40, ze_L48, ze_L63, ze_L64, ze_L127, ze_L255, ze_L400, ze_L1024, ze_L2047, ze_L65535]
          rfl
        · obtain ⟨k, e1, e2⟩ := ih (r + 1) F (zx_sI s 53 f 4 (nI 1)) a (by omega) (by omega) (zp_fN_set x f _) (fun g hg => by
            show _ = zx_b (zd_fold _ (a g) r || zp_nc A g m r)
            by_cases e : g = f
            · subst e
              rw [show zp_nc A g m r = true by unfold zp_nc; rw [decide_eq_true c1, decide_eq_true hw]; rfl, Bool.or_true]
              exact ze_gIs _ _ _ _ _
            · rw [show zp_nc A g m r = false by unfold zp_nc; rw [decide_eq_false (show ¬ zd_wh A m r = lN g from fun z => e (by rw [hw] at z; exact ((lN_eq (by omega) (by omega)).mp z).symm)), Bool.and_false], Bool.or_false, ze_gIn _ _ _ _ _ _ _ _ (by omega)]
              exact v g hg)
          refine ⟨k, ?_, e2⟩
          rw [← e1]
          show zs_Model_nameFunctions_L45_body k28 _ (nI m) (⟨m, hm16⟩ : Fin 16) (nI r) s = _
          simp (disch := omega) only [zs_Model_nameFunctions_L45_body, zs_Model_nameFunctions_J92, zd_C_rc Hs, zd_C_kd Hs, zd_C_wh Hs, zf_C_hasFunction Hs K, c1, hw, ↓zd_bnd, ↓zy_bm, if_true, if_false, ite_true, ite_false, ↓reduceIte, Bool.false_eq_true, Bool.true_eq_false, eq_self, true_and, and_true, false_and, and_false, reduceCtorEq, decide_true, decide_false, not_true_eq_false, not_false_eq_true, ze_ltT, ze_ltF, ze_leT, ze_leF, ze_eqT, ze_eqF, ze_mlt, ze_ltm, ze_mle, ze_lem, ze_meq, ze_eqm, ze_mm, ze_mltm, ze_inT, ze_inF, ze_inM, ze_cl, ze_fin, ze_decT, ze_decF, Nat.reduceSub, Nat.reduceMul, nI_add, Nat.add_sub_cancel, Nat.add_assoc, Nat.reduceAdd, ze_r8, ze_r24, ze_r40, ze_r400, ze_l8, ze_l16, ze_l24, ze_l40, ze_sub, ze_am1, ze_es, ze_en, ze_i64, ze_m64, ze_64i, ze_64m, ze_LltT, ze_LltF, ze_LleT, ze_LleF, ze_LeqT, ze_LeqF, ze_Lmlt, ze_Lltm, ze_Lmle, ze_Llem, ze_Lmeq, ze_Leqm, ze_Lmm, lN_add, ze_ch, ze_chd, ze_bt, ze_bf, ze_n0, ze_n1, ze_n2, ze_n3, ze_n4, ze_n5, ze_n6, ze_n7, ze_n8, ze_n9, ze_n10, ze_n11, ze_n12, ze_n13, ze_n14, ze_n15, ze_n16, ze_n17, ze_n18, ze_n19, ze_n20, ze_n21, ze_n22, ze_n23, ze_n24, ze_n25, ze_n26, ze_n27, ze_n28, ze_n29, ze_n30, ze_n31, ze_n32, ze_n33, ze_n34, ze_n35, ze_n36, ze_n37, ze_n38, ze_n39, ze_n40, ze_n48, ze_n63, ze_n64, ze_n65, ze_n80, ze_n100, ze_n128, ze_n200, ze_n255, ze_n300, ze_n320, ze_n384, ze_n400, ze_n512, ze_n1023, ze_n1600, ze_n6400, ze_n9600, ze_n32768, ze_n65535, ze_n65536, ze_n802, ze_n8191, ze_L0, ze_L1, ze_L2, ze_L3, ze_L4, ze_L5, ze_L6, ze_L7, ze_L8, ze_L9, ze_L10, ze_L15, ze_L16, ze_L24, ze_L40, ze_L48, ze_L63, ze_L64, ze_L127, ze_L255, ze_L400, ze_L1024, ze_L2047, ze_L65535]
          rfl
      · obtain ⟨k, e1, e2⟩ := ih (r + 1) F s a (by omega) (by omega) x (fun g hg => by
          rw [v g hg]
          show _ = zx_b (zd_fold _ (a g) r || zp_nc A g m r)
          rw [show zp_nc A g m r = false by unfold zp_nc; rw [decide_eq_false c1, Bool.false_and], Bool.or_false])
        refine ⟨k, ?_, e2⟩
        rw [← e1]
        show zs_Model_nameFunctions_L45_body k28 _ (nI m) (⟨m, hm16⟩ : Fin 16) (nI r) s = _
        simp (disch := omega) only [zs_Model_nameFunctions_L45_body, zs_Model_nameFunctions_J92, zd_C_rc Hs, zd_C_kd Hs, ↓zd_bnd, ↓zy_bm, if_true, if_false, ite_true, ite_false, ↓reduceIte, Bool.false_eq_true, Bool.true_eq_false, eq_self, true_and, and_true, false_and, and_false, reduceCtorEq, decide_true, decide_false, not_true_eq_false, not_false_eq_true, ze_ltT, ze_ltF, ze_leT, ze_leF, ze_eqT, ze_eqF, ze_mlt, ze_ltm, ze_mle, ze_lem, ze_meq, ze_eqm, ze_mm, ze_mltm, ze_inT, ze_inF, ze_inM, ze_cl, ze_fin, ze_decT, ze_decF, Nat.reduceSub, Nat.reduceMul, nI_add, Nat.add_sub_cancel, Nat.add_assoc, Nat.reduceAdd, ze_r8, ze_r24, ze_r40, ze_r400, ze_l8, ze_l16, ze_l24, ze_l40, ze_sub, ze_am1, ze_es, ze_en, ze_i64, ze_m64, ze_64i, ze_64m, ze_LltT, ze_LltF, ze_LleT, ze_LleF, ze_LeqT, ze_LeqF, ze_Lmlt, ze_Lltm, ze_Lmle, ze_Llem, ze_Lmeq, ze_Leqm, ze_Lmm, lN_add, ze_ch, ze_chd, ze_bt, ze_bf, ze_n0, ze_n1, ze_n2, ze_n3, ze_n4, ze_n5, ze_n6, ze_n7, ze_n8, ze_n9, ze_n10, ze_n11, ze_n12, ze_n13, ze_n14, ze_n15, ze_n16, ze_n17, ze_n18, ze_n19, ze_n20, ze_n21, ze_n22, ze_n23, ze_n24, ze_n25, ze_n26, ze_n27, ze_n28, ze_n29, ze_n30, ze_n31, ze_n32, ze_n33, ze_n34, ze_n35, ze_n36, ze_n37, ze_n38, ze_n39, ze_n40, ze_n48, ze_n63, ze_n64, ze_n65, ze_n80, ze_n100, ze_n128, ze_n200, ze_n255, ze_n300, ze_n320, ze_n384, ze_n400, ze_n512, ze_n1023, ze_n1600, ze_n6400, ze_n9600, ze_n32768, ze_n65535, ze_n65536, ze_n802, ze_n8191, ze_L0, ze_L1, ze_L2, ze_L3, ze_L4, ze_L5, ze_L6, ze_L7, ze_L8, ze_L9, ze_L10, ze_L15, ze_L16, ze_L24, ze_L40, ze_L48, ze_L63, ze_L64, ze_L127, ze_L255, ze_L400, ze_L1024, ze_L2047, ze_L65535]
        rfl
  have outer : ∀ d m F (s : zx_H), m + d = zd_M A → d < F → zp_fN h s → (∀ f, f < zd_F A → s.1 53 f 4 = zx_b (zd_fold (fun m s => zd_fold (fun r s => s || zp_nc A f m r) s (zd_rc A m)) false m)) → ∃ k, zx_loop (fun _ _ => none) zs_Model_nameFunctions_L28_body F (nI m) s = some k ∧ zp_fN h k ∧ zp_N A k := by
    intro d
    induction d with
    | zero =>
      intro m F s hm hF x v
      obtain ⟨F, rfl⟩ : ∃ G, F = G + 1 := ⟨F - 1, by omega⟩
      have hm : m = zd_M A := hm
      have Hs := zd_C_k (zp_fN_k x) H
      refine ⟨s, ?_, x, fun f hf => by rw [v f hf, hm]; rfl⟩
      show zs_Model_nameFunctions_L28_body _ (nI m) s = _
      simp (disch := omega) only [zs_Model_nameFunctions_L28_body, zd_C_M Hs, hm, ↓zd_bnd, ↓zy_bm, if_true, if_false, ite_true, ite_false, ↓reduceIte, Bool.false_eq_true, Bool.true_eq_false, eq_self, true_and, and_true, false_and, and_false, reduceCtorEq, decide_true, decide_false, not_true_eq_false, not_false_eq_true, ze_ltT, ze_ltF, ze_leT, ze_leF, ze_eqT, ze_eqF, ze_mlt, ze_ltm, ze_mle, ze_lem, ze_meq, ze_eqm, ze_mm, ze_mltm, ze_inT, ze_inF, ze_inM, ze_cl, ze_fin, ze_decT, ze_decF, Nat.reduceSub, Nat.reduceMul, nI_add, Nat.add_sub_cancel, Nat.add_assoc, Nat.reduceAdd, ze_r8, ze_r24, ze_r40, ze_r400, ze_l8, ze_l16, ze_l24, ze_l40, ze_sub, ze_am1, ze_es, ze_en, ze_i64, ze_m64, ze_64i, ze_64m, ze_LltT, ze_LltF, ze_LleT, ze_LleF, ze_LeqT, ze_LeqF, ze_Lmlt, ze_Lltm, ze_Lmle, ze_Llem, ze_Lmeq, ze_Leqm, ze_Lmm, lN_add, ze_ch, ze_chd, ze_bt, ze_bf, ze_n0, ze_n1, ze_n2, ze_n3, ze_n4, ze_n5, ze_n6, ze_n7, ze_n8, ze_n9, ze_n10, ze_n11, ze_n12, ze_n13, ze_n14, ze_n15, ze_n16, ze_n17, ze_n18, ze_n19, ze_n20, ze_n21, ze_n22, ze_n23, ze_n24, ze_n25, ze_n26, ze_n27, ze_n28, ze_n29, ze_n30, ze_n31, ze_n32, ze_n33, ze_n34, ze_n35, ze_n36, ze_n37, ze_n38, ze_n39, ze_n40, ze_n48, ze_n63, ze_n64, ze_n65, ze_n80, ze_n100, ze_n128, ze_n200, ze_n255, ze_n300, ze_n320, ze_n384, ze_n400, ze_n512, ze_n1023, ze_n1600, ze_n6400, ze_n9600, ze_n32768, ze_n65535, ze_n65536, ze_n802, ze_n8191, ze_L0, ze_L1, ze_L2, ze_L3, ze_L4, ze_L5, ze_L6, ze_L7, ze_L8, ze_L9, ze_L10, ze_L15, ze_L16, ze_L24, ze_L40, ze_L48, ze_L63, ze_L64, ze_L127, ze_L255, ze_L400, ze_L1024, ze_L2047, ze_L65535]
    | succ d ih =>
      intro m F s hm hF x v
      obtain ⟨F, rfl⟩ : ∃ G, F = G + 1 := ⟨F - 1, by omega⟩
      have Hs := zd_C_k (zp_fN_k x) H
      have hr24 := zd_ok_rc K m (by omega)
      obtain ⟨k, e1, e2, e3⟩ := inner (zx_loop (fun _ _ => none) zs_Model_nameFunctions_L28_body F) m (by omega) (by omega) (zd_rc A m) 0 zx_fuel s (fun f => zd_fold (fun m s => zd_fold (fun r s => s || zp_nc A f m r) s (zd_rc A m)) false m) (by omega) (by unfold zx_fuel; omega) x v
      obtain ⟨k2, f1, f2⟩ := ih (m + 1) F k (by omega) (by omega) e2 e3
      refine ⟨k2, ?_, f2⟩
      rw [← f1, ← e1]
      show zs_Model_nameFunctions_L28_body _ (nI m) s = _
      simp (disch := omega) only [zs_Model_nameFunctions_L28_body, zs_Model_nameFunctions_L45, zd_C_M Hs, ↓zd_bnd, ↓zy_bm, if_true, if_false, ite_true, ite_false, ↓reduceIte, Bool.false_eq_true, Bool.true_eq_false, eq_self, true_and, and_true, false_and, and_false, reduceCtorEq, decide_true, decide_false, not_true_eq_false, not_false_eq_true, ze_ltT, ze_ltF, ze_leT, ze_leF, ze_eqT, ze_eqF, ze_mlt, ze_ltm, ze_mle, ze_lem, ze_meq, ze_eqm, ze_mm, ze_mltm, ze_inT, ze_inF, ze_inM, ze_cl, ze_fin, ze_decT, ze_decF, Nat.reduceSub, Nat.reduceMul, nI_add, Nat.add_sub_cancel, Nat.add_assoc, Nat.reduceAdd, ze_r8, ze_r24, ze_r40, ze_r400, ze_l8, ze_l16, ze_l24, ze_l40, ze_sub, ze_am1, ze_es, ze_en, ze_i64, ze_m64, ze_64i, ze_64m, ze_LltT, ze_LltF, ze_LleT, ze_LleF, ze_LeqT, ze_LeqF, ze_Lmlt, ze_Lltm, ze_Lmle, ze_Llem, ze_Lmeq, ze_Leqm, ze_Lmm, lN_add, ze_ch, ze_chd, ze_bt, ze_bf, ze_n0, ze_n1, ze_n2, ze_n3, ze_n4, ze_n5, ze_n6, ze_n7, ze_n8, ze_n9, ze_n10, ze_n11, ze_n12, ze_n13, ze_n14, ze_n15, ze_n16, ze_n17, ze_n18, ze_n19, ze_n20, ze_n21, ze_n22, ze_n23, ze_n24, ze_n25, ze_n26, ze_n27, ze_n28, ze_n29, ze_n30, ze_n31, ze_n32, ze_n33, ze_n34, ze_n35, ze_n36, ze_n37, ze_n38, ze_n39, ze_n40, ze_n48, ze_n63, ze_n64, ze_n65, ze_n80, ze_n100, ze_n128, ze_n200, ze_n255, ze_n300, ze_n320, ze_n384, ze_n400, ze_n512, ze_n1023, ze_n1600, ze_n6400, ze_n9600, ze_n32768, ze_n65535, ze_n65536, ze_n802, ze_n8191, ze_L0, ze_L1, ze_L2, ze_L3, ze_L4, ze_L5, ze_L6, ze_L7, ze_L8, ze_L9, ze_L10, ze_L15, ze_L16, ze_L24, ze_L40, ze_L48, ze_L63, ze_L64, ze_L127, ze_L255, ze_L400, ze_L1024, ze_L2047, ze_L65535]
      rfl
  have reset : ∀ d p F (s : zx_H), p + d = zd_F A → d < F → zp_fN h s → (∀ f, f < p → s.1 53 f 4 = nI 0) → ∃ k, zx_loop (fun _ _ => none) zs_Model_nameFunctions_L2_body F (nI p) s = zs_Model_nameFunctions_L28 (nI 0) k ∧ zp_fN h k ∧ (∀ f, f < zd_F A → k.1 53 f 4 = nI 0) := by
    intro d
    induction d with
    | zero =>
      intro p F s hp hF x v
      obtain ⟨F, rfl⟩ : ∃ G, F = G + 1 := ⟨F - 1, by omega⟩
      have hp : p = zd_F A := hp
      have Hs := zd_C_k (zp_fN_k x) H
      refine ⟨s, ?_, x, by rw [← hp]; exact v⟩
      show zs_Model_nameFunctions_L2_body _ (nI p) s = _
      simp (disch := omega) only [zs_Model_nameFunctions_L2_body, zd_C_F Hs, hp, ↓zd_bnd, ↓zy_bm, if_true, if_false, ite_true, ite_false, ↓reduceIte, Bool.false_eq_true, Bool.true_eq_false, eq_self, true_and, and_true, false_and, and_false, reduceCtorEq, decide_true, decide_false, not_true_eq_false, not_false_eq_true, ze_ltT, ze_ltF, ze_leT, ze_leF, ze_eqT, ze_eqF, ze_mlt, ze_ltm, ze_mle, ze_lem, ze_meq, ze_eqm, ze_mm, ze_mltm, ze_inT, ze_inF, ze_inM, ze_cl, ze_fin, ze_decT, ze_decF, Nat.reduceSub, Nat.reduceMul, nI_add, Nat.add_sub_cancel, Nat.add_assoc, Nat.reduceAdd, ze_r8, ze_r24, ze_r40, ze_r400, ze_l8, ze_l16, ze_l24, ze_l40, ze_sub, ze_am1, ze_es, ze_en, ze_i64, ze_m64, ze_64i, ze_64m, ze_LltT, ze_LltF, ze_LleT, ze_LleF, ze_LeqT, ze_LeqF, ze_Lmlt, ze_Lltm, ze_Lmle, ze_Llem, ze_Lmeq, ze_Leqm, ze_Lmm, lN_add, ze_ch, ze_chd, ze_bt, ze_bf, ze_n0, ze_n1, ze_n2, ze_n3, ze_n4, ze_n5, ze_n6, ze_n7, ze_n8, ze_n9, ze_n10, ze_n11, ze_n12, ze_n13, ze_n14, ze_n15, ze_n16, ze_n17, ze_n18, ze_n19, ze_n20, ze_n21, ze_n22, ze_n23, ze_n24, ze_n25, ze_n26, ze_n27, ze_n28, ze_n29, ze_n30, ze_n31, ze_n32, ze_n33, ze_n34, ze_n35, ze_n36, ze_n37, ze_n38, ze_n39, ze_n40, ze_n48, ze_n63, ze_n64, ze_n65, ze_n80, ze_n100, ze_n128, ze_n200, ze_n255, ze_n300, ze_n320, ze_n384, ze_n400, ze_n512, ze_n1023, ze_n1600, ze_n6400, ze_n9600, ze_n32768, ze_n65535, ze_n65536, ze_n802, ze_n8191, ze_L0, ze_L1, ze_L2, ze_L3, ze_L4, ze_L5, ze_L6, ze_L7, ze_L8, ze_L9, ze_L10, ze_L15, ze_L16, ze_L24, ze_L40, ze_L48, ze_L63, ze_L64, ze_L127, ze_L255, ze_L400, ze_L1024, ze_L2047, ze_L65535]
    | succ d ih =>
      intro p F s hp hF x v
      obtain ⟨F, rfl⟩ : ∃ G, F = G + 1 := ⟨F - 1, by omega⟩
      have Hs := zd_C_k (zp_fN_k x) H
      obtain ⟨k, e1, e2⟩ := ih (p + 1) F (zx_sI s 53 p 4 (nI 0)) (by omega) (by omega) (zp_fN_set x p _) (fun f hf => by
        by_cases e : f = p
        · rw [e]; exact ze_gIs _ _ _ _ _
        · rw [ze_gIn _ _ _ _ _ _ _ _ (by omega)]; exact v f (by omega))
      refine ⟨k, ?_, e2⟩
      rw [← e1]
      show zs_Model_nameFunctions_L2_body _ (nI p) s = _
      simp (disch := omega) only [zs_Model_nameFunctions_L2_body, zd_C_F Hs, ↓zd_bnd, ↓zy_bm, if_true, if_false, ite_true, ite_false, ↓reduceIte, Bool.false_eq_true, Bool.true_eq_false, eq_self, true_and, and_true, false_and, and_false, reduceCtorEq, decide_true, decide_false, not_true_eq_false, not_false_eq_true, ze_ltT, ze_ltF, ze_leT, ze_leF, ze_eqT, ze_eqF, ze_mlt, ze_ltm, ze_mle, ze_lem, ze_meq, ze_eqm, ze_mm, ze_mltm, ze_inT, ze_inF, ze_inM, ze_cl, ze_fin, ze_decT, ze_decF, Nat.reduceSub, Nat.reduceMul, nI_add, Nat.add_sub_cancel, Nat.add_assoc, Nat.reduceAdd, ze_r8, ze_r24, ze_r40, ze_r400, ze_l8, ze_l16, ze_l24, ze_l40, ze_sub, ze_am1, ze_es, ze_en, ze_i64, ze_m64, ze_64i, ze_64m, ze_LltT, ze_LltF, ze_LleT, ze_LleF, ze_LeqT, ze_LeqF, ze_Lmlt, ze_Lltm, ze_Lmle, ze_Llem, ze_Lmeq, ze_Leqm, ze_Lmm, lN_add, ze_ch, ze_chd, ze_bt, ze_bf, ze_n0, ze_n1, ze_n2, ze_n3, ze_n4, ze_n5, ze_n6, ze_n7, ze_n8, ze_n9, ze_n10, ze_n11, ze_n12, ze_n13, ze_n14, ze_n15, ze_n16, ze_n17, ze_n18, ze_n19, ze_n20, ze_n21, ze_n22, ze_n23, ze_n24, ze_n25, ze_n26, ze_n27, ze_n28, ze_n29, ze_n30, ze_n31, ze_n32, ze_n33, ze_n34, ze_n35, ze_n36, ze_n37, ze_n38, ze_n39, ze_n40, ze_n48, ze_n63, ze_n64, ze_n65, ze_n80, ze_n100, ze_n128, ze_n200, ze_n255, ze_n300, ze_n320, ze_n384, ze_n400, ze_n512, ze_n1023, ze_n1600, ze_n6400, ze_n9600, ze_n32768, ze_n65535, ze_n65536, ze_n802, ze_n8191, ze_L0, ze_L1, ze_L2, ze_L3, ze_L4, ze_L5, ze_L6, ze_L7, ze_L8, ze_L9, ze_L10, ze_L15, ze_L16, ze_L24, ze_L40, ze_L48, ze_L63, ze_L64, ze_L127, ze_L255, ze_L400, ze_L1024, ze_L2047, ze_L65535]
      rfl
  obtain ⟨k1, a1, a2, a3⟩ := reset (zd_F A) 0 zx_fuel h (by omega) (by unfold zx_fuel; omega) ⟨fun _ _ => rfl, rfl, fun _ _ _ => rfl⟩ (fun f hf => absurd hf (Nat.not_lt_zero f))
  obtain ⟨k2, b1, b2, b3⟩ := outer (zd_M A) 0 zx_fuel k1 (by omega) (by unfold zx_fuel; omega) a2 a3
  exact ⟨k2, a1.trans b1, b2, b3⟩
