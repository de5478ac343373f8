/-! build -/
theorem zp_con_ne3 {A : zd_A} (K : zd_ok A) {m n : Nat} (hm : m < zd_M A) {v : Int32} (h : zp_con A m n = some v) : (v = -nI 3) = False := by
  have hT := zd_ok_T K
  have hme := zd_ok_m K m hm
  have hz := zd_ok_sz K (zd_mt A m) (by omega)
  have m3 : ∀ k, k < 2147483648 → (nI k = -nI 3) = False := fun k hk => eq_false (fun e => by
    have h3 : (-nI 3 : Int32).toInt = -3 := by decide
    have := congrArg Int32.toInt e
    rw [h3, nI_toInt hk] at this
    omega)
  have vp : ∀ w, (zp_vp A (zd_mt A m) w = -nI 3) = False := fun w => by
    unfold zp_vp
    by_cases c1 : w = -lN 1
    · rw [if_pos c1]; decide
    · rw [if_neg c1]
      by_cases c2 : w = -lN 2
      · rw [if_pos c2]; decide
      · rw [if_neg c2]
        cases e : zp_plL A (zd_mt A m) w with
        | none => show ((-nI 1 : Int32) = -nI 3) = False; decide
        | some q =>
          have := (zp_plL_some e).1
          exact m3 q (by omega)
  unfold zp_con at h
  cases e5 : zp_fr A m 5 (nI n) with
  | some r => rw [e5] at h; cases h; exact vp _
  | none =>
    rw [e5] at h
    have h : (match zp_ci A m n with | some q => some (nI q) | none => zp_c2 A m n) = some v := h
    cases ec : zp_ci A m n with
    | some q =>
      rw [ec] at h
      have h : some (nI q) = some v := h
      cases h
      have hq : q < 8 ∨ q < zd_sz A (zd_mt A m) := by
        unfold zp_ci at ec
        cases ei : zp_iv A m with
        | none => rw [ei] at ec; cases ec
        | some io =>
          cases io with
          | none => rw [ei] at ec; cases ec
          | some o =>
            rw [ei] at ec
            have ec : (match zd_first (zp_cic A o n) (zd_rc A o) with | some r => zd_pl A (zd_mt A m) (zd_tg A o r) | none => none) = some q := ec
            cases e3 : zd_first (zp_cic A o n) (zd_rc A o) with
            | none => rw [e3] at ec; cases ec
            | some r =>
              rw [e3] at ec
              have ec : zd_pl A (zd_mt A m) (zd_tg A o r) = some q := ec
              exact Or.inr (zd_pl_lt ec).1
      exact m3 q (by omega)
    | none =>
      rw [ec] at h
      have h : zp_c2 A m n = some v := h
      unfold zp_c2 at h
      cases ep : zd_pl A (zd_mt A m) (nI n) with
      | some q =>
        rw [ep] at h
        have h : some (nI q) = some v := h
        cases h
        have := (zd_pl_lt ep).1
        exact m3 q (by omega)
      | none =>
        rw [ep] at h
        have h : (match zp_lr A m 6 with | none => none | some r => some (zp_vp A (zd_mt A m) (zd_wh A m r))) = some v := h
        cases el : zp_lr A m 6 with
        | none => rw [el] at h; cases h
        | some r => rw [el] at h; cases h; exact vp _
def zp_fs (h : zx_H) (n m : Nat) (q : Int32) : zx_H := zx_sI (zx_sI (zx_sI h 24 0 20 (nI n)) 24 0 21 (nI m)) 24 0 22 q
theorem zp_R_isFaulty {A : zd_A} {h : zx_H} (H : zd_R A h) (K : zd_ok A) {m : Nat} (hm : m < zd_M A) : zs_Ref_isFaulty (nI m) h = (match zp_dm A m with | none => some (false, h) | some (n, q) => some (true, zp_fs h n m q)) := by
  have hT := zd_ok_T K
  have hM := zd_ok_M K
  have hme := zd_ok_m K m hm
  have hr24 := zd_ok_rc K m (by omega)
  have wi := zp_R_isWrongInverse H K hm
  unfold zp_dm
  cases hb : zp_ivb A m with
  | false =>
    rw [hb] at wi
    rw [if_pos rfl]
    show _ = some (true, zp_fs h 1 m (-nI 1))
    unfold zp_fs
    simp (disch := omega) only [zs_Ref_isFaulty_J152, zs_Ref_isFaulty_J110, zs_Ref_isFaulty_J86, zs_Ref_isFaulty, wi, zs_Ref_faulty, Bool.not_false, ↓zd_bnd, ↓zy_bm, if_true, if_false, ite_true, ite_false, ↓reduceIte, Bool.false_eq_true, Bool.true_eq_false, eq_self, true_and, and_true, false_and, and_false, reduceCtorEq, decide_true, decide_false, not_true_eq_false, not_false_eq_true, ze_ltT, ze_ltF, ze_leT, ze_leF, ze_eqT, ze_eqF, ze_mlt, ze_ltm, ze_mle, ze_lem, ze_meq, ze_eqm, ze_mm, ze_mltm, ze_inT, ze_inF, ze_inM, ze_cl, ze_fin, ze_decT, ze_decF, Nat.reduceSub, Nat.reduceMul, nI_add, Nat.add_sub_cancel, Nat.add_assoc, Nat.reduceAdd, ze_r8, ze_r24, ze_r40, ze_r400, ze_l8, ze_l16, ze_l24, ze_l40, ze_sub, ze_am1, ze_es, ze_en, ze_i64, ze_m64, ze_64i, ze_64m, ze_LltT, ze_LltF, ze_LleT, ze_LleF, ze_LeqT, ze_LeqF, ze_Lmlt, ze_Lltm, ze_Lmle, ze_Llem, ze_Lmeq, ze_Leqm, ze_Lmm, lN_add, ze_ch, ze_chd, ze_bt, ze_bf, ze_n0, ze_n1, ze_n2, ze_n3, ze_n4, ze_n5, ze_n6, ze_n7, ze_n8, ze_n9, ze_n10, ze_n11, ze_n12, ze_n13, ze_n14, ze_n15, ze_n16, ze_n17, ze_n18, ze_n19, ze_n20, ze_n21, ze_n22, ze_n23, ze_n24, ze_n25, ze_n26, ze_n27, ze_n28, ze_n29, ze_n30, ze_n31, ze_n32, ze_n33, ze_n34, ze_n35, ze_n36, ze_n37, ze_n38, ze_n39, ze_n40, ze_n48, ze_n63, ze_n64, ze_n65, ze_n80, ze_n100, ze_n128, ze_n200, ze_n255, ze_n300, ze_n320, ze_n384, ze_n400, ze_n512, ze_n1023, ze_n1600, ze_n6400, ze_n9600, ze_n32768, ze_n65535, ze_n65536, ze_n802, ze_n8191, ze_L0, ze_L1, ze_L2, ze_L3, ze_L4, ze_L5, ze_L6, ze_L7, ze_L8, ze_L9, ze_L10, ze_L15, ze_L16, ze_L24, ze_L40, ze_L48, ze_L63, ze_L64, ze_L127, ze_L255, ze_L400, ze_L1024, ze_L2047, ze_L65535]
  | true =>
    rw [hb] at wi
    rw [if_neg (by decide)]
    have hn8 : zp_nm A m ≤ 8 := by
      unfold zp_nm
      have := zd_ok_sz K (zd_mt A m) (by omega)
      have := zd_ok_sz K (zd_mf A m) (by omega)
      by_cases c : zd_srt A (zd_mt A m) = 4
      · rw [if_pos c]; omega
      · rw [if_neg c]; omega
    have key := zd_search (fun F p => zx_loop (fun _ _ _ => none) zs_Ref_isFaulty_L21_body F (nI m) (nI (24 * m + p)) h) (zp_rf A m) (fun r => some (true, zp_fs h (zp_wr A m r) m (nI r))) (zs_Ref_isFaulty_J86 (nI m) (decide (zd_srt A (zd_mt A m) = 4)) h) (zd_rc A m)
      (fun F p hp hc => by
        have w8 := zp_wr8 A m p
        have wne : zp_wr A m p ≠ 0 := of_decide_eq_true hc
        show zs_Ref_isFaulty_L21_body _ (nI m) (nI (24 * m + p)) h = _
        unfold zp_fs
        simp (disch := omega) only [zs_Ref_isFaulty_L21_body, zs_Ref_faulty, zd_R_rc H, zp_R_wr H K hm, Nat.add_sub_cancel_left, ↓zd_bnd, ↓zy_bm, if_true, if_false, ite_true, ite_false, ↓reduceIte, Bool.false_eq_true, Bool.true_eq_false, eq_self, true_and, and_true, false_and, and_false, reduceCtorEq, decide_true, decide_false, not_true_eq_false, not_false_eq_true, ze_ltT, ze_ltF, ze_leT, ze_leF, ze_eqT, ze_eqF, ze_mlt, ze_ltm, ze_mle, ze_lem, ze_meq, ze_eqm, ze_mm, ze_mltm, ze_inT, ze_inF, ze_inM, ze_cl, ze_fin, ze_decT, ze_decF, Nat.reduceSub, Nat.reduceMul, nI_add, Nat.add_sub_cancel, Nat.add_assoc, Nat.reduceAdd, ze_r8, ze_r24, ze_r40, ze_r400, ze_l8, ze_l16, ze_l24, ze_l40, ze_sub, ze_am1, ze_es, ze_en, ze_i64, ze_m64, ze_64i, ze_64m, ze_LltT, ze_LltF, ze_LleT, ze_LleF, ze_LeqT, ze_LeqF, ze_Lmlt, ze_Lltm, ze_Lmle, ze_Llem, ze_Lmeq, ze_Leqm, ze_Lmm, lN_add, ze_ch, ze_chd, ze_bt, ze_bf, ze_n0, ze_n1, ze_n2, ze_n3, ze_n4, ze_n5, ze_n6, ze_n7, ze_n8, ze_n9, ze_n10, ze_n11, ze_n12, ze_n13, ze_n14, ze_n15, ze_n16, ze_n17, ze_n18, ze_n19, ze_n20, ze_n21, ze_n22, ze_n23, ze_n24, ze_n25, ze_n26, ze_n27, ze_n28, ze_n29, ze_n30, ze_n31, ze_n32, ze_n33, ze_n34, ze_n35, ze_n36, ze_n37, ze_n38, ze_n39, ze_n40, ze_n48, ze_n63, ze_n64, ze_n65, ze_n80, ze_n100, ze_n128, ze_n200, ze_n255, ze_n300, ze_n320, ze_n384, ze_n400, ze_n512, ze_n1023, ze_n1600, ze_n6400, ze_n9600, ze_n32768, ze_n65535, ze_n65536, ze_n802, ze_n8191, ze_L0, ze_L1, ze_L2, ze_L3, ze_L4, ze_L5, ze_L6, ze_L7, ze_L8, ze_L9, ze_L10, ze_L15, ze_L16, ze_L24, ze_L40, ze_L48, ze_L63, ze_L64, ze_L127, ze_L255, ze_L400, ze_L1024, ze_L2047, ze_L65535])
      (fun F p hp hc => by
        have e0 : zp_wr A m p = 0 := Classical.not_not.mp (of_decide_eq_false hc)
        show zs_Ref_isFaulty_L21_body _ (nI m) (nI (24 * m + p)) h = _
        simp (disch := omega) only [zs_Ref_isFaulty_L21_body, zd_R_rc H, zp_R_wr H K hm, e0, ↓zd_bnd, ↓zy_bm, if_true, if_false, ite_true, ite_false, ↓reduceIte, Bool.false_eq_true, Bool.true_eq_false, eq_self, true_and, and_true, false_and, and_false, reduceCtorEq, decide_true, decide_false, not_true_eq_false, not_false_eq_true, ze_ltT, ze_ltF, ze_leT, ze_leF, ze_eqT, ze_eqF, ze_mlt, ze_ltm, ze_mle, ze_lem, ze_meq, ze_eqm, ze_mm, ze_mltm, ze_inT, ze_inF, ze_inM, ze_cl, ze_fin, ze_decT, ze_decF, Nat.reduceSub, Nat.reduceMul, nI_add, Nat.add_sub_cancel, Nat.add_assoc, Nat.reduceAdd, ze_r8, ze_r24, ze_r40, ze_r400, ze_l8, ze_l16, ze_l24, ze_l40, ze_sub, ze_am1, ze_es, ze_en, ze_i64, ze_m64, ze_64i, ze_64m, ze_LltT, ze_LltF, ze_LleT, ze_LleF, ze_LeqT, ze_LeqF, ze_Lmlt, ze_Lltm, ze_Lmle, ze_Llem, ze_Lmeq, ze_Leqm, ze_Lmm, lN_add, ze_ch, ze_chd, ze_bt, ze_bf, ze_n0, ze_n1, ze_n2, ze_n3, ze_n4, ze_n5, ze_n6, ze_n7, ze_n8, ze_n9, ze_n10, ze_n11, ze_n12, ze_n13, ze_n14, ze_n15, ze_n16, ze_n17, ze_n18, ze_n19, ze_n20, ze_n21, ze_n22, ze_n23, ze_n24, ze_n25, ze_n26, ze_n27, ze_n28, ze_n29, ze_n30, ze_n31, ze_n32, ze_n33, ze_n34, ze_n35, ze_n36, ze_n37, ze_n38, ze_n39, ze_n40, ze_n48, ze_n63, ze_n64, ze_n65, ze_n80, ze_n100, ze_n128, ze_n200, ze_n255, ze_n300, ze_n320, ze_n384, ze_n400, ze_n512, ze_n1023, ze_n1600, ze_n6400, ze_n9600, ze_n32768, ze_n65535, ze_n65536, ze_n802, ze_n8191, ze_L0, ze_L1, ze_L2, ze_L3, ze_L4, ze_L5, ze_L6, ze_L7, ze_L8, ze_L9, ze_L10, ze_L15, ze_L16, ze_L24, ze_L40, ze_L48, ze_L63, ze_L64, ze_L127, ze_L255, ze_L400, ze_L1024, ze_L2047, ze_L65535]
        rfl)
      (fun F => by
        show zs_Ref_isFaulty_L21_body _ (nI m) (nI (24 * m + zd_rc A m)) h = _
        have := zg_sortB K hme.2.1
        by_cases c : zd_srt A (zd_mt A m) = 4
        · simp (disch := omega) only [zs_Ref_isFaulty_L21_body, zd_R_rc H, zd_R_mt H, zd_R_srt H, c, ↓zd_bnd, ↓zy_bm, if_true, if_false, ite_true, ite_false, ↓reduceIte, Bool.false_eq_true, Bool.true_eq_false, eq_self, true_and, and_true, false_and, and_false, reduceCtorEq, decide_true, decide_false, not_true_eq_false, not_false_eq_true, ze_ltT, ze_ltF, ze_leT, ze_leF, ze_eqT, ze_eqF, ze_mlt, ze_ltm, ze_mle, ze_lem, ze_meq, ze_eqm, ze_mm, ze_mltm, ze_inT, ze_inF, ze_inM, ze_cl, ze_fin, ze_decT, ze_decF, Nat.reduceSub, Nat.reduceMul, nI_add, Nat.add_sub_cancel, Nat.add_assoc, Nat.reduceAdd, ze_r8, ze_r24, ze_r40, ze_r400, ze_l8, ze_l16, ze_l24, ze_l40, ze_sub, ze_am1, ze_es, ze_en, ze_i64, ze_m64, ze_64i, ze_64m, ze_LltT, ze_LltF, ze_LleT, ze_LleF, ze_LeqT, ze_LeqF, ze_Lmlt, ze_Lltm, ze_Lmle, ze_Llem, ze_Lmeq, ze_Leqm, ze_Lmm, lN_add, ze_ch, ze_chd, ze_bt, ze_bf, ze_n0, ze_n1, ze_n2, ze_n3, ze_n4, ze_n5, ze_n6, ze_n7, ze_n8, ze_n9, ze_n10, ze_n11, ze_n12, ze_n13, ze_n14, ze_n15, ze_n16, ze_n17, ze_n18, ze_n19, ze_n20, ze_n21, ze_n22, ze_n23, ze_n24, ze_n25, ze_n26, ze_n27, ze_n28, ze_n29, ze_n30, ze_n31, ze_n32, ze_n33, ze_n34, ze_n35, ze_n36, ze_n37, ze_n38, ze_n39, ze_n40, ze_n48, ze_n63, ze_n64, ze_n65, ze_n80, ze_n100, ze_n128, ze_n200, ze_n255, ze_n300, ze_n320, ze_n384, ze_n400, ze_n512, ze_n1023, ze_n1600, ze_n6400, ze_n9600, ze_n32768, ze_n65535, ze_n65536, ze_n802, ze_n8191, ze_L0, ze_L1, ze_L2, ze_L3, ze_L4, ze_L5, ze_L6, ze_L7, ze_L8, ze_L9, ze_L10, ze_L15, ze_L16, ze_L24, ze_L40, ze_L48, ze_L63, ze_L64, ze_L127, ze_L255, ze_L400, ze_L1024, ze_L2047, ze_L65535]
        · simp (disch := omega) only [zs_Ref_isFaulty_L21_body, zd_R_rc H, zd_R_mt H, zd_R_srt H, c, ↓zd_bnd, ↓zy_bm, if_true, if_false, ite_true, ite_false, ↓reduceIte, Bool.false_eq_true, Bool.true_eq_false, eq_self, true_and, and_true, false_and, and_false, reduceCtorEq, decide_true, decide_false, not_true_eq_false, not_false_eq_true, ze_ltT, ze_ltF, ze_leT, ze_leF, ze_eqT, ze_eqF, ze_mlt, ze_ltm, ze_mle, ze_lem, ze_meq, ze_eqm, ze_mm, ze_mltm, ze_inT, ze_inF, ze_inM, ze_cl, ze_fin, ze_decT, ze_decF, Nat.reduceSub, Nat.reduceMul, nI_add, Nat.add_sub_cancel, Nat.add_assoc, Nat.reduceAdd, ze_r8, ze_r24, ze_r40, ze_r400, ze_l8, ze_l16, ze_l24, ze_l40, ze_sub, ze_am1, ze_es, ze_en, ze_i64, ze_m64, ze_64i, ze_64m, ze_LltT, ze_LltF, ze_LleT, ze_LleF, ze_LeqT, ze_LeqF, ze_Lmlt, ze_Lltm, ze_Lmle, ze_Llem, ze_Lmeq, ze_Leqm, ze_Lmm, lN_add, ze_ch, ze_chd, ze_bt, ze_bf, ze_n0, ze_n1, ze_n2, ze_n3, ze_n4, ze_n5, ze_n6, ze_n7, ze_n8, ze_n9, ze_n10, ze_n11, ze_n12, ze_n13, ze_n14, ze_n15, ze_n16, ze_n17, ze_n18, ze_n19, ze_n20, ze_n21, ze_n22, ze_n23, ze_n24, ze_n25, ze_n26, ze_n27, ze_n28, ze_n29, ze_n30, ze_n31, ze_n32, ze_n33, ze_n34, ze_n35, ze_n36, ze_n37, ze_n38, ze_n39, ze_n40, ze_n48, ze_n63, ze_n64, ze_n65, ze_n80, ze_n100, ze_n128, ze_n200, ze_n255, ze_n300, ze_n320, ze_n384, ze_n400, ze_n512, ze_n1023, ze_n1600, ze_n6400, ze_n9600, ze_n32768, ze_n65535, ze_n65536, ze_n802, ze_n8191, ze_L0, ze_L1, ze_L2, ze_L3, ze_L4, ze_L5, ze_L6, ze_L7, ze_L8, ze_L9, ze_L10, ze_L15, ze_L16, ze_L24, ze_L40, ze_L48, ze_L63, ze_L64, ze_L127, ze_L255, ze_L400, ze_L1024, ze_L2047, ze_L65535])
      zx_fuel (by unfold zx_fuel; omega)
    have key : zs_Ref_isFaulty_L21 (nI m) (nI (24 * m)) h = _ := key
    have e0 : zs_Ref_isFaulty (nI m) h = zs_Ref_isFaulty_L21 (nI m) (nI (24 * m)) h := by
      simp (disch := omega) only [zs_Ref_isFaulty, wi, Bool.not_true, ↓zd_bnd, ↓zy_bm, if_true, if_false, ite_true, ite_false, ↓reduceIte, Bool.false_eq_true, Bool.true_eq_false, eq_self, true_and, and_true, false_and, and_false, reduceCtorEq, decide_true, decide_false, not_true_eq_false, not_false_eq_true, ze_ltT, ze_ltF, ze_leT, ze_leF, ze_eqT, ze_eqF, ze_mlt, ze_ltm, ze_mle, ze_lem, ze_meq, ze_eqm, ze_mm, ze_mltm, ze_inT, ze_inF, ze_inM, ze_cl, ze_fin, ze_decT, ze_decF, Nat.reduceSub, Nat.reduceMul, nI_add, Nat.add_sub_cancel, Nat.add_assoc, Nat.reduceAdd, ze_r8, ze_r24, ze_r40, ze_r400, ze_l8, ze_l16, ze_l24, ze_l40, ze_sub, ze_am1, ze_es, ze_en, ze_i64, ze_m64, ze_64i, ze_64m, ze_LltT, ze_LltF, ze_LleT, ze_LleF, ze_LeqT, ze_LeqF, ze_Lmlt, ze_Lltm, ze_Lmle, ze_Llem, ze_Lmeq, ze_Leqm, ze_Lmm, lN_add, ze_ch, ze_chd, ze_bt, ze_bf, ze_n0, ze_n1, ze_n2, ze_n3, ze_n4, ze_n5, ze_n6, ze_n7, ze_n8, ze_n9, ze_n10, ze_n11, ze_n12, ze_n13, ze_n14, ze_n15, ze_n16, ze_n17, ze_n18, ze_n19, ze_n20, ze_n21, ze_n22, ze_n23, ze_n24, ze_n25, ze_n26, ze_n27, ze_n28, ze_n29, ze_n30, ze_n31, ze_n32, ze_n33, ze_n34, ze_n35, ze_n36, ze_n37, ze_n38, ze_n39, ze_n40, ze_n48, ze_n63, ze_n64, ze_n65, ze_n80, ze_n100, ze_n128, ze_n200, ze_n255, ze_n300, ze_n320, ze_n384, ze_n400, ze_n512, ze_n1023, ze_n1600, ze_n6400, ze_n9600, ze_n32768, ze_n65535, ze_n65536, ze_n802, ze_n8191, ze_L0, ze_L1, ze_L2, ze_L3, ze_L4, ze_L5, ze_L6, ze_L7, ze_L8, ze_L9, ze_L10, ze_L15, ze_L16, ze_L24, ze_L40, ze_L48, ze_L63, ze_L64, ze_L127, ze_L255, ze_L400, ze_L1024, ze_L2047, ze_L65535]
    rw [e0, key]
    cases er : zd_first (zp_rf A m) (zd_rc A m) with
    | some r => rfl
    | none =>
      have R := zp_rok_of er
      have e1 : zs_Ref_isFaulty_J86 (nI m) (decide (zd_srt A (zd_mt A m) = 4)) h = zs_Ref_isFaulty_L115 (nI m) (decide (zd_srt A (zd_mt A m) = 4)) (nI (zp_nm A m)) (nI 0) h := by
        unfold zp_nm
        by_cases c : zd_srt A (zd_mt A m) = 4
        · rw [if_pos c]
          simp (disch := omega) only [zs_Ref_isFaulty_J86, zs_Ref_isFaulty_J110, zd_R_mt H, zd_R_sz H, c, ↓zd_bnd, ↓zy_bm, if_true, if_false, ite_true, ite_false, ↓reduceIte, Bool.false_eq_true, Bool.true_eq_false, eq_self, true_and, and_true, false_and, and_false, reduceCtorEq, decide_true, decide_false, not_true_eq_false, not_false_eq_true, ze_ltT, ze_ltF, ze_leT, ze_leF, ze_eqT, ze_eqF, ze_mlt, ze_ltm, ze_mle, ze_lem, ze_meq, ze_eqm, ze_mm, ze_mltm, ze_inT, ze_inF, ze_inM, ze_cl, ze_fin, ze_decT, ze_decF, Nat.reduceSub, Nat.reduceMul, nI_add, Nat.add_sub_cancel, Nat.add_assoc, Nat.reduceAdd, ze_r8, ze_r24, ze_r40, ze_r400, ze_l8, ze_l16, ze_l24, ze_l40, ze_sub, ze_am1, ze_es, ze_en, ze_i64, ze_m64, ze_64i, ze_64m, ze_LltT, ze_LltF, ze_LleT, ze_LleF, ze_LeqT, ze_LeqF, ze_Lmlt, ze_Lltm, ze_Lmle, ze_Llem, ze_Lmeq, ze_Leqm, ze_Lmm, lN_add, ze_ch, ze_chd, ze_bt, ze_bf, ze_n0, ze_n1, ze_n2, ze_n3, ze_n4, ze_n5, ze_n6, ze_n7, ze_n8, ze_n9, ze_n10, ze_n11, ze_n12, ze_n13, ze_n14, ze_n15, ze_n16, ze_n17, ze_n18, ze_n19, ze_n20, ze_n21, ze_n22, ze_n23, ze_n24, ze_n25, ze_n26, ze_n27, ze_n28, ze_n29, ze_n30, ze_n31, ze_n32, ze_n33, ze_n34, ze_n35, ze_n36, ze_n37, ze_n38, ze_n39, ze_n40, ze_n48, ze_n63, ze_n64, ze_n65, ze_n80, ze_n100, ze_n128, ze_n200, ze_n255, ze_n300, ze_n320, ze_n384, ze_n400, ze_n512, ze_n1023, ze_n1600, ze_n6400, ze_n9600, ze_n32768, ze_n65535, ze_n65536, ze_n802, ze_n8191, ze_L0, ze_L1, ze_L2, ze_L3, ze_L4, ze_L5, ze_L6, ze_L7, ze_L8, ze_L9, ze_L10, ze_L15, ze_L16, ze_L24, ze_L40, ze_L48, ze_L63, ze_L64, ze_L127, ze_L255, ze_L400, ze_L1024, ze_L2047, ze_L65535]
        · rw [if_neg c]
          simp (disch := omega) only [zs_Ref_isFaulty_J86, zs_Ref_isFaulty_J110, zd_R_mf H, zd_R_sz H, c, ↓zd_bnd, ↓zy_bm, if_true, if_false, ite_true, ite_false, ↓reduceIte, Bool.false_eq_true, Bool.true_eq_false, eq_self, true_and, and_true, false_and, and_false, reduceCtorEq, decide_true, decide_false, not_true_eq_false, not_false_eq_true, ze_ltT, ze_ltF, ze_leT, ze_leF, ze_eqT, ze_eqF, ze_mlt, ze_ltm, ze_mle, ze_lem, ze_meq, ze_eqm, ze_mm, ze_mltm, ze_inT, ze_inF, ze_inM, ze_cl, ze_fin, ze_decT, ze_decF, Nat.reduceSub, Nat.reduceMul, nI_add, Nat.add_sub_cancel, Nat.add_assoc, Nat.reduceAdd, ze_r8, ze_r24, ze_r40, ze_r400, ze_l8, ze_l16, ze_l24, ze_l40, ze_sub, ze_am1, ze_es, ze_en, ze_i64, ze_m64, ze_64i, ze_64m, ze_LltT, ze_LltF, ze_LleT, ze_LleF, ze_LeqT, ze_LeqF, ze_Lmlt, ze_Lltm, ze_Lmle, ze_Llem, ze_Lmeq, ze_Leqm, ze_Lmm, lN_add, ze_ch, ze_chd, ze_bt, ze_bf, ze_n0, ze_n1, ze_n2, ze_n3, ze_n4, ze_n5, ze_n6, ze_n7, ze_n8, ze_n9, ze_n10, ze_n11, ze_n12, ze_n13, ze_n14, ze_n15, ze_n16, ze_n17, ze_n18, ze_n19, ze_n20, ze_n21, ze_n22, ze_n23, ze_n24, ze_n25, ze_n26, ze_n27, ze_n28, ze_n29, ze_n30, ze_n31, ze_n32, ze_n33, ze_n34, ze_n35, ze_n36, ze_n37, ze_n38, ze_n39, ze_n40, ze_n48, ze_n63, ze_n64, ze_n65, ze_n80, ze_n100, ze_n128, ze_n200, ze_n255, ze_n300, ze_n320, ze_n384, ze_n400, ze_n512, ze_n1023, ze_n1600, ze_n6400, ze_n9600, ze_n32768, ze_n65535, ze_n65536, ze_n802, ze_n8191, ze_L0, ze_L1, ze_L2, ze_L3, ze_L4, ze_L5, ze_L6, ze_L7, ze_L8, ze_L9, ze_L10, ze_L15, ze_L16, ze_L24, ze_L40, ze_L48, ze_L63, ze_L64, ze_L127, ze_L255, ze_L400, ze_L1024, ze_L2047, ze_L65535]
      show zs_Ref_isFaulty_J86 (nI m) (decide (zd_srt A (zd_mt A m) = 4)) h = _
      rw [e1]
      have k2 := zd_search (fun F p => zx_loop (fun _ _ _ _ _ => none) zs_Ref_isFaulty_L115_body F (nI m) (decide (zd_srt A (zd_mt A m) = 4)) (nI (zp_nm A m)) (nI p) h) (zp_qf A m) (fun p => some (true, zp_fs h (zp_wq A m p) m (nI p))) (some (false, h)) (zp_nm A m)
        (fun F p hp hc => by
          have wne : zp_wq A m p ≠ 0 := of_decide_eq_true hc
          show zs_Ref_isFaulty_L115_body _ (nI m) _ (nI (zp_nm A m)) (nI p) h = _
          unfold zp_wq at wne ⊢
          unfold zp_nm at hp
          by_cases c : zd_srt A (zd_mt A m) = 4
          · rw [if_pos c] at wne hp
            rw [if_pos c]
            have w8 : zp_wp A m p < 8 := by
              have := zp_w18 A m p
              have := zp_w28 A m p
              unfold zp_wp
              by_cases c1 : zp_w1 A m p = 0
              · rw [if_neg (fun z => z c1)]; omega
              · rw [if_pos c1]; omega
            have en : zp_nm A m = zd_sz A (zd_mt A m) := if_pos c
            have wp := zp_R_wp H K hm hp c hb R
            unfold zp_fs
            simp (disch := omega) only [zs_Ref_isFaulty_L115_body, zs_Ref_isFaulty_J152, zs_Ref_faulty, en, c, wp, ↓zd_bnd, ↓zy_bm, if_true, if_false, ite_true, ite_false, ↓reduceIte, Bool.false_eq_true, Bool.true_eq_false, eq_self, true_and, and_true, false_and, and_false, reduceCtorEq, decide_true, decide_false, not_true_eq_false, not_false_eq_true, ze_ltT, ze_ltF, ze_leT, ze_leF, ze_eqT, ze_eqF, ze_mlt, ze_ltm, ze_mle, ze_lem, ze_meq, ze_eqm, ze_mm, ze_mltm, ze_inT, ze_inF, ze_inM, ze_cl, ze_fin, ze_decT, ze_decF, Nat.reduceSub, Nat.reduceMul, nI_add, Nat.add_sub_cancel, Nat.add_assoc, Nat.reduceAdd, ze_r8, ze_r24, ze_r40, ze_r400, ze_l8, ze_l16, ze_l24, ze_l40, ze_sub, ze_am1, ze_es, ze_en, ze_i64, ze_m64, ze_64i, ze_64m, ze_LltT, ze_LltF, ze_LleT, ze_LleF, ze_LeqT, ze_LeqF, ze_Lmlt, ze_Lltm, ze_Lmle, ze_Llem, ze_Lmeq, ze_Leqm, ze_Lmm, lN_add, ze_ch, ze_chd, ze_bt, ze_bf, ze_n0, ze_n1, ze_n2, ze_n3, ze_n4, ze_n5, ze_n6, ze_n7, ze_n8, ze_n9, ze_n10, ze_n11, ze_n12, ze_n13, ze_n14, ze_n15, ze_n16, ze_n17, ze_n18, ze_n19, ze_n20, ze_n21, ze_n22, ze_n23, ze_n24, ze_n25, ze_n26, ze_n27, ze_n28, ze_n29, ze_n30, ze_n31, ze_n32, ze_n33, ze_n34, ze_n35, ze_n36, ze_n37, ze_n38, ze_n39, ze_n40, ze_n48, ze_n63, ze_n64, ze_n65, ze_n80, ze_n100, ze_n128, ze_n200, ze_n255, ze_n300, ze_n320, ze_n384, ze_n400, ze_n512, ze_n1023, ze_n1600, ze_n6400, ze_n9600, ze_n32768, ze_n65535, ze_n65536, ze_n802, ze_n8191, ze_L0, ze_L1, ze_L2, ze_L3, ze_L4, ze_L5, ze_L6, ze_L7, ze_L8, ze_L9, ze_L10, ze_L15, ze_L16, ze_L24, ze_L40, ze_L48, ze_L63, ze_L64, ze_L127, ze_L255, ze_L400, ze_L1024, ze_L2047, ze_L65535]
          · rw [if_neg c] at wne hp
            rw [if_neg c]
            have en : zp_nm A m = zd_sz A (zd_mf A m) := if_neg c
            have co := zp_R_constantOf H K hm hp hb R
            by_cases c2 : zp_con A m (zd_nm A (zd_mf A m) p) = none
            · rw [if_pos c2]
              rw [c2] at co
              have co : zs_Ref_constantOf (nI m) (nI p) h = some (-nI 3) := co
              unfold zp_fs
              simp (disch := omega) only [zs_Ref_isFaulty_L115_body, zs_Ref_isFaulty_J152, zs_Ref_faulty, en, c, co, ↓zd_bnd, ↓zy_bm, if_true, if_false, ite_true, ite_false, ↓reduceIte, Bool.false_eq_true, Bool.true_eq_false, eq_self, true_and, and_true, false_and, and_false, reduceCtorEq, decide_true, decide_false, not_true_eq_false, not_false_eq_true, ze_ltT, ze_ltF, ze_leT, ze_leF, ze_eqT, ze_eqF, ze_mlt, ze_ltm, ze_mle, ze_lem, ze_meq, ze_eqm, ze_mm, ze_mltm, ze_inT, ze_inF, ze_inM, ze_cl, ze_fin, ze_decT, ze_decF, Nat.reduceSub, Nat.reduceMul, nI_add, Nat.add_sub_cancel, Nat.add_assoc, Nat.reduceAdd, ze_r8, ze_r24, ze_r40, ze_r400, ze_l8, ze_l16, ze_l24, ze_l40, ze_sub, ze_am1, ze_es, ze_en, ze_i64, ze_m64, ze_64i, ze_64m, ze_LltT, ze_LltF, ze_LleT, ze_LleF, ze_LeqT, ze_LeqF, ze_Lmlt, ze_Lltm, ze_Lmle, ze_Llem, ze_Lmeq, ze_Leqm, ze_Lmm, lN_add, ze_ch, ze_chd, ze_bt, ze_bf, ze_n0, ze_n1, ze_n2, ze_n3, ze_n4, ze_n5, ze_n6, ze_n7, ze_n8, ze_n9, ze_n10, ze_n11, ze_n12, ze_n13, ze_n14, ze_n15, ze_n16, ze_n17, ze_n18, ze_n19, ze_n20, ze_n21, ze_n22, ze_n23, ze_n24, ze_n25, ze_n26, ze_n27, ze_n28, ze_n29, ze_n30, ze_n31, ze_n32, ze_n33, ze_n34, ze_n35, ze_n36, ze_n37, ze_n38, ze_n39, ze_n40, ze_n48, ze_n63, ze_n64, ze_n65, ze_n80, ze_n100, ze_n128, ze_n200, ze_n255, ze_n300, ze_n320, ze_n384, ze_n400, ze_n512, ze_n1023, ze_n1600, ze_n6400, ze_n9600, ze_n32768, ze_n65535, ze_n65536, ze_n802, ze_n8191, ze_L0, ze_L1, ze_L2, ze_L3, ze_L4, ze_L5, ze_L6, ze_L7, ze_L8, ze_L9, ze_L10, ze_L15, ze_L16, ze_L24, ze_L40, ze_L48, ze_L63, ze_L64, ze_L127, ze_L255, ze_L400, ze_L1024, ze_L2047, ze_L65535]
            · rw [if_neg c2] at wne
              exact absurd rfl wne)
        (fun F p hp hc => by
          have e0 : zp_wq A m p = 0 := Classical.not_not.mp (of_decide_eq_false hc)
          show zs_Ref_isFaulty_L115_body _ (nI m) _ (nI (zp_nm A m)) (nI p) h = _
          unfold zp_wq at e0
          unfold zp_nm at hp
          by_cases c : zd_srt A (zd_mt A m) = 4
          · rw [if_pos c] at e0 hp
            have en : zp_nm A m = zd_sz A (zd_mt A m) := if_pos c
            have wp := zp_R_wp H K hm hp c hb R
            rw [e0] at wp
            simp (disch := omega) only [zs_Ref_isFaulty_L115_body, zs_Ref_isFaulty_J152, en, c, wp, ↓zd_bnd, ↓zy_bm, if_true, if_false, ite_true, ite_false, ↓reduceIte, Bool.false_eq_true, Bool.true_eq_false, eq_self, true_and, and_true, false_and, and_false, reduceCtorEq, decide_true, decide_false, not_true_eq_false, not_false_eq_true, ze_ltT, ze_ltF, ze_leT, ze_leF, ze_eqT, ze_eqF, ze_mlt, ze_ltm, ze_mle, ze_lem, ze_meq, ze_eqm, ze_mm, ze_mltm, ze_inT, ze_inF, ze_inM, ze_cl, ze_fin, ze_decT, ze_decF, Nat.reduceSub, Nat.reduceMul, nI_add, Nat.add_sub_cancel, Nat.add_assoc, Nat.reduceAdd, ze_r8, ze_r24, ze_r40, ze_r400, ze_l8, ze_l16, ze_l24, ze_l40, ze_sub, ze_am1, ze_es, ze_en, ze_i64, ze_m64, ze_64i, ze_64m, ze_LltT, ze_LltF, ze_LleT, ze_LleF, ze_LeqT, ze_LeqF, ze_Lmlt, ze_Lltm, ze_Lmle, ze_Llem, ze_Lmeq, ze_Leqm, ze_Lmm, lN_add, ze_ch, ze_chd, ze_bt, ze_bf, ze_n0, ze_n1, ze_n2, ze_n3, ze_n4, ze_n5, ze_n6, ze_n7, ze_n8, ze_n9, ze_n10, ze_n11, ze_n12, ze_n13, ze_n14, ze_n15, ze_n16, ze_n17, ze_n18, ze_n19, ze_n20, ze_n21, ze_n22, ze_n23, ze_n24, ze_n25, ze_n26, ze_n27, ze_n28, ze_n29, ze_n30, ze_n31, ze_n32, ze_n33, ze_n34, ze_n35, ze_n36, ze_n37, ze_n38, ze_n39, ze_n40, ze_n48, ze_n63, ze_n64, ze_n65, ze_n80, ze_n100, ze_n128, ze_n200, ze_n255, ze_n300, ze_n320, ze_n384, ze_n400, ze_n512, ze_n1023, ze_n1600, ze_n6400, ze_n9600, ze_n32768, ze_n65535, ze_n65536, ze_n802, ze_n8191, ze_L0, ze_L1, ze_L2, ze_L3, ze_L4, ze_L5, ze_L6, ze_L7, ze_L8, ze_L9, ze_L10, ze_L15, ze_L16, ze_L24, ze_L40, ze_L48, ze_L63, ze_L64, ze_L127, ze_L255, ze_L400, ze_L1024, ze_L2047, ze_L65535]
            rfl
          · rw [if_neg c] at e0 hp
            have en : zp_nm A m = zd_sz A (zd_mf A m) := if_neg c
            have co := zp_R_constantOf H K hm hp hb R
            cases c2 : zp_con A m (zd_nm A (zd_mf A m) p) with
            | none => rw [if_pos c2] at e0; omega
            | some v =>
              rw [c2] at co
              have co : zs_Ref_constantOf (nI m) (nI p) h = some v := co
              have n3 := zp_con_ne3 K hm c2
              simp (disch := omega) only [zs_Ref_isFaulty_L115_body, zs_Ref_isFaulty_J152, en, c, co, n3, ↓zd_bnd, ↓zy_bm, if_true, if_false, ite_true, ite_false, ↓reduceIte, Bool.false_eq_true, Bool.true_eq_false, eq_self, true_and, and_true, false_and, and_false, reduceCtorEq, decide_true, decide_false, not_true_eq_false, not_false_eq_true, ze_ltT, ze_ltF, ze_leT, ze_leF, ze_eqT, ze_eqF, ze_mlt, ze_ltm, ze_mle, ze_lem, ze_meq, ze_eqm, ze_mm, ze_mltm, ze_inT, ze_inF, ze_inM, ze_cl, ze_fin, ze_decT, ze_decF, Nat.reduceSub, Nat.reduceMul, nI_add, Nat.add_sub_cancel, Nat.add_assoc, Nat.reduceAdd, ze_r8, ze_r24, ze_r40, ze_r400, ze_l8, ze_l16, ze_l24, ze_l40, ze_sub, ze_am1, ze_es, ze_en, ze_i64, ze_m64, ze_64i, ze_64m, ze_LltT, ze_LltF, ze_LleT, ze_LleF, ze_LeqT, ze_LeqF, ze_Lmlt, ze_Lltm, ze_Lmle, ze_Llem, ze_Lmeq, ze_Leqm, ze_Lmm, lN_add, ze_ch, ze_chd, ze_bt, ze_bf, ze_n0, ze_n1, ze_n2, ze_n3, ze_n4, ze_n5, ze_n6, ze_n7, ze_n8, ze_n9, ze_n10, ze_n11, ze_n12, ze_n13, ze_n14, ze_n15, ze_n16, ze_n17, ze_n18, ze_n19, ze_n20, ze_n21, ze_n22, ze_n23, ze_n24, ze_n25, ze_n26, ze_n27, ze_n28, ze_n29, ze_n30, ze_n31, ze_n32, ze_n33, ze_n34, ze_n35, ze_n36, ze_n37, ze_n38, ze_n39, ze_n40, ze_n48, ze_n63, ze_n64, ze_n65, ze_n80, ze_n100, ze_n128, ze_n200, ze_n255, ze_n300, ze_n320, ze_n384, ze_n400, ze_n512, ze_n1023, ze_n1600, ze_n6400, ze_n9600, ze_n32768, ze_n65535, ze_n65536, ze_n802, ze_n8191, ze_L0, ze_L1, ze_L2, ze_L3, ze_L4, ze_L5, ze_L6, ze_L7, ze_L8, ze_L9, ze_L10, ze_L15, ze_L16, ze_L24, ze_L40, ze_L48, ze_L63, ze_L64, ze_L127, ze_L255, ze_L400, ze_L1024, ze_L2047, ze_L65535]
              rfl)
        (fun F => by
          show zs_Ref_isFaulty_L115_body _ (nI m) _ (nI (zp_nm A m)) (nI (zp_nm A m)) h = _
          simp (disch := omega) only [zs_Ref_isFaulty_L115_body, ↓zd_bnd, ↓zy_bm, if_true, if_false, ite_true, ite_false, ↓reduceIte, Bool.false_eq_true, Bool.true_eq_false, eq_self, true_and, and_true, false_and, and_false, reduceCtorEq, decide_true, decide_false, not_true_eq_false, not_false_eq_true, ze_ltT, ze_ltF, ze_leT, ze_leF, ze_eqT, ze_eqF, ze_mlt, ze_ltm, ze_mle, ze_lem, ze_meq, ze_eqm, ze_mm, ze_mltm, ze_inT, ze_inF, ze_inM, ze_cl, ze_fin, ze_decT, ze_decF, Nat.reduceSub, Nat.reduceMul, nI_add, Nat.add_sub_cancel, Nat.add_assoc, Nat.reduceAdd, ze_r8, ze_r24, ze_r40, ze_r400, ze_l8, ze_l16, ze_l24, ze_l40, ze_sub, ze_am1, ze_es, ze_en, ze_i64, ze_m64, ze_64i, ze_64m, ze_LltT, ze_LltF, ze_LleT, ze_LleF, ze_LeqT, ze_LeqF, ze_Lmlt, ze_Lltm, ze_Lmle, ze_Llem, ze_Lmeq, ze_Leqm, ze_Lmm, lN_add, ze_ch, ze_chd, ze_bt, ze_bf, ze_n0, ze_n1, ze_n2, ze_n3, ze_n4, ze_n5, ze_n6, ze_n7, ze_n8, ze_n9, ze_n10, ze_n11, ze_n12, ze_n13, ze_n14, ze_n15, ze_n16, ze_n17, ze_n18, ze_n19, ze_n20, ze_n21, ze_n22, ze_n23, ze_n24, ze_n25, ze_n26, ze_n27, ze_n28, ze_n29, ze_n30, ze_n31, ze_n32, ze_n33, ze_n34, ze_n35, ze_n36, ze_n37, ze_n38, ze_n39, ze_n40, ze_n48, ze_n63, ze_n64, ze_n65, ze_n80, ze_n100, ze_n128, ze_n200, ze_n255, ze_n300, ze_n320, ze_n384, ze_n400, ze_n512, ze_n1023, ze_n1600, ze_n6400, ze_n9600, ze_n32768, ze_n65535, ze_n65536, ze_n802, ze_n8191, ze_L0, ze_L1, ze_L2, ze_L3, ze_L4, ze_L5, ze_L6, ze_L7, ze_L8, ze_L9, ze_L10, ze_L15, ze_L16, ze_L24, ze_L40, ze_L48, ze_L63, ze_L64, ze_L127, ze_L255, ze_L400, ze_L1024, ze_L2047, ze_L65535])
        zx_fuel (by unfold zx_fuel; omega)
      have k2 : zs_Ref_isFaulty_L115 (nI m) (decide (zd_srt A (zd_mt A m) = 4)) (nI (zp_nm A m)) (nI 0) h = _ := k2
      rw [k2]
      cases zd_first (zp_qf A m) (zp_nm A m) <;> rfl
theorem zq_dm (A : zd_A) (x y z : Int32) (m : Nat) : zp_dm (zg_dg A x y z) m = zp_dm A m := by
  have e1 : zp_rf (zg_dg A x y z) m = zp_rf A m := by
    funext r
    unfold zp_rf
    rw [zq_wr]
  have e2 : ∀ p, zp_wq (zg_dg A x y z) m p = zp_wq A m p := fun p => by
    unfold zp_wq
    rw [zq_wp]
    rfl
  have e3 : zp_qf (zg_dg A x y z) m = zp_qf A m := by
    funext p
    unfold zp_qf
    rw [e2]
  unfold zp_dm
  rw [e1, e3]
  simp only [zq_wr, e2]
  rfl
theorem zg_R_dg {A : zd_A} {h : zx_H} (H : zd_R A h) (a b c : Int32) : zd_R (zg_dg A a b c) (zx_sI (zx_sI (zx_sI h 24 0 20 a) 24 0 21 b) 24 0 22 c) := fun q => match q with
  | 0 => H 0 | 1 => H 1 | 2 => H 2 | 3 => H 3 | 4 => H 4 | 5 => H 5 | 6 => H 6 | 7 => H 7 | 8 => H 8 | 9 => H 9 | 10 => H 10 | 11 => H 11 | 12 => H 12 | 13 => H 13
  | 14 => H 14 | 15 => H 15 | 16 => H 16 | 17 => H 17 | 18 => H 18 | 19 => rfl | 20 => rfl | 21 => rfl | 22 => H 22 | 23 => H 23 | 24 => H 24 | 25 => H 25 | 26 => H 26
  | _ + 27 => trivial
def zg_bt (A : zd_A) : zd_A := zd_uN A 0 0 0 1
theorem zt_fr (A : zd_A) : zp_fr (zg_bt A) = zp_fr A := rfl
theorem zt_lr (A : zd_A) : zp_lr (zg_bt A) = zp_lr A := rfl
theorem zt_nmd (A : zd_A) : zp_nmd (zg_bt A) = zp_nmd A := rfl
theorem zt_cv (A : zd_A) : zp_cv (zg_bt A) = zp_cv A := rfl
theorem zt_pl (A : zd_A) : zd_pl (zg_bt A) = zd_pl A := rfl
theorem zt_plL (A : zd_A) : zp_plL (zg_bt A) = zp_plL A := rfl
theorem zt_one (A : zd_A) : zp_one (zg_bt A) = zp_one A := rfl
theorem zt_how (A : zd_A) : ∀ n, zp_how (zg_bt A) n = zp_how A n := by
  intro n
  induction n with
  | zero => rfl
  | succ n ih =>
    funext a b
    show (if zp_one A a b = 4 then (if zp_how (zg_bt A) n (zd_of A a) (zd_of A b) ≤ 1 then zp_how (zg_bt A) n (zd_of A a) (zd_of A b) else 4) else zp_one A a b) = _
    rw [ih]
    rfl
theorem zt_hw (A : zd_A) : zp_hw (zg_bt A) = zp_hw A := zt_how A 40
theorem zt_tt (A : zd_A) (t : Nat) (w : Int64) : ∀ n, zp_tt (zg_bt A) t w n = zp_tt A t w n := by
  intro n
  induction n with
  | zero => rfl
  | succ n ih =>
    show (match zp_tt (zg_bt A) t w n with | none => none | some u => if zd_srt A u = 4 then (match zd_pl A u (nI (zp_nk w n)) with | none => none | some p => some (zd_pt A u p)) else none) = _
    rw [ih]
    rfl
theorem zt_end (A : zd_A) (t : Nat) (w : Int64) : zp_end (zg_bt A) t w = zp_end A t w := by
  unfold zp_end
  rw [zt_tt]
theorem zt_pk (A : zd_A) (t : Nat) (w : Int64) (k : Nat) : zp_pk (zg_bt A) t w k = zp_pk A t w k := by
  unfold zp_pk
  rw [zt_tt]
  rfl
theorem zt_iv (A : zd_A) : zp_iv (zg_bt A) = zp_iv A := rfl
theorem zt_ivb (A : zd_A) (m : Nat) : zp_ivb (zg_bt A) m = zp_ivb A m := rfl
theorem zt_ivx (A : zd_A) (m : Nat) : zp_ivx (zg_bt A) m = zp_ivx A m := rfl
theorem zt_src (A : zd_A) : zp_src (zg_bt A) = zp_src A := rfl
theorem zt_fn (A : zd_A) : zp_fn (zg_bt A) = zp_fn A := rfl
theorem zt_w4 (A : zd_A) (m r : Nat) : zp_w4 (zg_bt A) m r = zp_w4 A m r := by
  unfold zp_w4
  rw [zt_end]
  rfl
theorem zt_wr (A : zd_A) (m r : Nat) : zp_wr (zg_bt A) m r = zp_wr A m r := by
  unfold zp_wr
  rw [zt_w4]
  rfl
theorem zt_rok (A : zd_A) {m : Nat} (R : zp_rok A m) : zp_rok (zg_bt A) m := fun r hr => (zt_wr A m r).trans (R r hr)
theorem zt_con (A : zd_A) : zp_con (zg_bt A) = zp_con A := rfl
theorem zt_wb (A : zd_A) (m n e t : Nat) : zp_wb (zg_bt A) m n e t = zp_wb A m n e t := by
  unfold zp_wb
  rw [zt_hw]
  rfl
theorem zt_wc (A : zd_A) (m p : Nat) : zp_wc (zg_bt A) m p = zp_wc A m p := by
  unfold zp_wc
  rw [zt_src]
  show (match zp_src A m (zp_n A m p) with | none => 5 | some w => match zp_end (zg_bt A) (zd_mf A m) w with | none => 5 | some e => zp_wb (zg_bt A) m (zp_n A m p) e (zp_y A m p)) = _
  cases zp_src A m (zp_n A m p) with
  | none => rfl
  | some w =>
    show (match zp_end (zg_bt A) (zd_mf A m) w with | none => 5 | some e => zp_wb (zg_bt A) m (zp_n A m p) e (zp_y A m p)) = (match zp_end A (zd_mf A m) w with | none => 5 | some e => zp_wb A m (zp_n A m p) e (zp_y A m p))
    rw [zt_end]
    cases zp_end A (zd_mf A m) w with
    | none => rfl
    | some e => exact zt_wb A _ _ _ _
theorem zt_w1 (A : zd_A) (m p : Nat) : zp_w1 (zg_bt A) m p = zp_w1 A m p := by
  unfold zp_w1
  rw [zt_hw, zt_wc]
  rfl
theorem zt_w2 (A : zd_A) (m p : Nat) : zp_w2 (zg_bt A) m p = zp_w2 A m p := by
  unfold zp_w2
  rw [zt_hw]
  rfl
theorem zt_wp (A : zd_A) (m p : Nat) : zp_wp (zg_bt A) m p = zp_wp A m p := by
  unfold zp_wp
  rw [zt_w1, zt_w2]
theorem zt_N {A : zd_A} {h : zx_H} : zp_N (zg_bt A) h ↔ zp_N A h := Iff.rfl
theorem zt_ft {A : zd_A} {h k : zx_H} : zp_ft (zg_bt A) h k ↔ zp_ft A h k := Iff.rfl
theorem zt_fP {A : zd_A} {i : Nat} {h k : zx_H} : zp_fP (zg_bt A) i h k ↔ zp_fP A i h k := Iff.rfl
theorem zt_ch (A : zd_A) (h : zx_H) : ∀ n a b, zp_ch (zg_bt A) h n a b ↔ zp_ch A h n a b := by
  intro n
  induction n with
  | zero => exact fun _ _ => Iff.rfl
  | succ n ih =>
    intro a b
    show (h.1 15 0 (40 * a + b) = zp_cw (zp_one A a b) ∧ (zp_one A a b = 4 → zp_ch (zg_bt A) h n (zd_of A a) (zd_of A b))) ↔ (h.1 15 0 (40 * a + b) = zp_cw (zp_one A a b) ∧ (zp_one A a b = 4 → zp_ch A h n (zd_of A a) (zd_of A b)))
    rw [ih]
theorem zt_row {A : zd_A} {k : zx_H} {m p : Nat} : zp_row (zg_bt A) k m p ↔ zp_row A k m p := by
  unfold zp_row
  simp only [zt_fr, zt_hw, zt_src, zt_fn, zt_end, zt_pk, zt_ch]
  exact Iff.rfl
theorem zt_rowd {A : zd_A} {k : zx_H} {m p : Nat} : zp_rowd (zg_bt A) k m p ↔ zp_rowd A k m p := by
  unfold zp_rowd
  simp only [zt_fr, zt_hw]
  exact Iff.rfl
theorem zt_mem {A : zd_A} {k : zx_H} {m p : Nat} : zp_mem (zg_bt A) k m p ↔ zp_mem A k m p := by
  unfold zp_mem
  rw [zt_row, zt_rowd]
  exact Iff.rfl
theorem zt_PM {A : zd_A} {k : zx_H} {m : Nat} : zp_PM (zg_bt A) k m ↔ zp_PM A k m := by
  unfold zp_PM
  simp only [zt_mem]
  exact Iff.rfl
theorem zg_R_bt {A : zd_A} {h : zx_H} (H : zd_R A h) : zd_R (zg_bt A) (zx_sI h 24 0 1 (nI 1)) := fun q => match q with
  | 0 => rfl | 1 => H 1 | 2 => H 2 | 3 => H 3 | 4 => H 4 | 5 => H 5 | 6 => H 6 | 7 => H 7 | 8 => H 8 | 9 => H 9 | 10 => H 10 | 11 => H 11 | 12 => H 12 | 13 => H 13
  | 14 => H 14 | 15 => H 15 | 16 => H 16 | 17 => H 17 | 18 => H 18 | 19 => H 19 | 20 => H 20 | 21 => H 21 | 22 => H 22 | 23 => H 23 | 24 => H 24 | 25 => H 25 | 26 => H 26
  | _ + 27 => trivial
theorem zg_C_bt {A : zd_A} {h : zx_H} (H : zd_C A h) : zd_C (zg_bt A) (zx_sI h 0 0 5 (nI 1)) := fun q => match q with
  | 0 => rfl | 1 => H 1 | 2 => H 2 | 3 => H 3 | 4 => H 4 | 5 => H 5 | 6 => H 6 | 7 => H 7 | 8 => H 8 | 9 => H 9 | 10 => H 10 | 11 => H 11 | 12 => H 12 | 13 => H 13
  | 14 => H 14 | 15 => H 15 | 16 => H 16 | 17 => H 17 | 18 => H 18 | 19 => H 19 | 20 => H 20 | 21 => H 21 | 22 => H 22 | 23 => H 23 | 24 => H 24 | 25 => H 25
  | _ + 26 => trivial
theorem zg_ok_bt {A : zd_A} (K : zd_ok A) : zd_ok (zg_bt A) := fun q => match q with
  | 0 => K 0 | 1 => K 1 | 2 => K 2 | 3 => K 3 | 4 => K 4 | 5 => K 5 | 6 => K 6 | 7 => K 7 | 8 => K 8 | 9 => K 9 | 10 => K 10 | 11 => K 11 | 12 => K 12 | 13 => K 13 | 14 => K 14 | 15 => K 15 | 16 => K 16 | 17 => K 17 | 18 => K 18 | 19 => K 19 | 20 => K 20 | 21 => K 21 | 22 => K 22 | 23 => K 23 | 24 => K 24 | 25 => Nat.le_refl 1
  | _ + 26 => trivial
theorem zt_dm (A : zd_A) (m : Nat) : zp_dm (zg_bt A) m = zp_dm A m := by
  have e1 : zp_rf (zg_bt A) m = zp_rf A m := by
    funext r
    unfold zp_rf
    rw [zt_wr]
  have e2 : ∀ p, zp_wq (zg_bt A) m p = zp_wq A m p := fun p => by
    unfold zp_wq
    rw [zt_wp]
    rfl
  have e3 : zp_qf (zg_bt A) m = zp_qf A m := by
    funext p
    unfold zp_qf
    rw [e2]
  unfold zp_dm
  rw [e1, e3]
  simp only [zt_wr, e2]
  rfl
theorem zp_R_build25 {A : zd_A} {h : zx_H} (H : zd_R A h) (K : zd_ok A) (d0 : zd_d0 A = nI 0) (d1 : zd_d1 A = -nI 1) (d2 : zd_d2 A = -nI 1) : zs_Ref_build_L25 false (nI 0) h = (match zp_da A with | none => some (nI (zd_M A), zx_sI (zx_sI h 24 0 0 (nI 0)) 24 0 1 (nI 1)) | some m => match zp_dm A m with | none => none | some (n, q) => some (nI 0, zx_sI (zp_fs h n m q) 24 0 0 (nI 1))) := by
  have hM := zd_ok_M K
  have key := zp_search2 (fun F p => zx_loop (fun _ _ _ => none) zs_Ref_build_L25_body F false (nI p) h) (fun m => (zp_dm A m).isSome) (fun m => match zp_dm A m with | none => none | some (n, q) => some (nI 0, zx_sI (zp_fs h n m q) 24 0 0 (nI 1))) (some (nI (zd_M A), zx_sI (zx_sI h 24 0 0 (nI 0)) 24 0 1 (nI 1))) (zd_M A)
    (fun F p hp hc => by
      have f := zp_R_isFaulty H K hp
      cases ed : zp_dm A p with
      | none => rw [ed] at hc; cases hc
      | some nq =>
        obtain ⟨n, q⟩ := nq
        rw [ed] at f
        have f : zs_Ref_isFaulty (nI p) h = some (true, zp_fs h n p q) := f
        have cM : (zp_fs h n p q).1 24 0 8 = nI (zd_M A) := by
          unfold zp_fs
          simp (disch := omega) only [ze_gIs, ze_gIn, ze_gJs, ze_gJn, zd_gI2, zd_gJ1, ze_sII]
          exact zd_R_M H
        have st : zs_Ref_build_L25_body (zx_loop (fun _ _ _ => none) zs_Ref_build_L25_body F) true (nI (p + 1)) (zp_fs h n p q) = some (nI 0, zx_sI (zp_fs h n p q) 24 0 0 (nI 1)) := by
          generalize zp_fs h n p q = h9 at *
          by_cases z : zd_M A ≤ p + 1
          · simp (disch := omega) only [zs_Ref_build_L25_body, zs_Ref_build_J49, zs_Ref_fails, cM, ↓zd_bnd, ↓zy_bm, if_true, if_false, ite_true, ite_false, ↓reduceIte, Bool.false_eq_true, Bool.true_eq_false, eq_self, true_and, and_true, false_and, and_false, reduceCtorEq, decide_true, decide_false, not_true_eq_false, not_false_eq_true, ze_ltT, ze_ltF, ze_leT, ze_leF, ze_eqT, ze_eqF, ze_mlt, ze_ltm, ze_mle, ze_lem, ze_meq, ze_eqm, ze_mm, ze_mltm, ze_inT, ze_inF, ze_inM, ze_cl, ze_fin, ze_decT, ze_decF, Nat.reduceSub, Nat.reduceMul, nI_add, Nat.add_sub_cancel, Nat.add_assoc, Nat.reduceAdd, ze_r8, ze_r24, ze_r40, ze_r400, ze_l8, ze_l16, ze_l24, ze_l40, ze_sub, ze_am1, ze_es, ze_en, ze_i64, ze_m64, ze_64i, ze_64m, ze_LltT, ze_LltF, ze_LleT, ze_LleF, ze_LeqT, ze_LeqF, ze_Lmlt, ze_Lltm, ze_Lmle, ze_Llem, ze_Lmeq, ze_Leqm, ze_Lmm, lN_add, ze_ch, ze_chd, ze_bt, ze_bf, ze_n0, ze_n1, ze_n2, ze_n3, ze_n4, ze_n5, ze_n6, ze_n7, ze_n8, ze_n9, ze_n10, ze_n11, ze_n12, ze_n13, ze_n14, ze_n15, ze_n16, ze_n17, ze_n18, ze_n19, ze_n20, ze_n21, ze_n22, ze_n23, ze_n24, ze_n25, ze_n26, ze_n27, ze_n28, ze_n29, ze_n30, ze_n31, ze_n32, ze_n33, ze_n34, ze_n35, ze_n36, ze_n37, ze_n38, ze_n39, ze_n40, ze_n48, ze_n63, ze_n64, ze_n65, ze_n80, ze_n100, ze_n128, ze_n200, ze_n255, ze_n300, ze_n320, ze_n384, ze_n400, ze_n512, ze_n1023, ze_n1600, ze_n6400, ze_n9600, ze_n32768, ze_n65535, ze_n65536, ze_n802, ze_n8191, ze_L0, ze_L1, ze_L2, ze_L3, ze_L4, ze_L5, ze_L6, ze_L7, ze_L8, ze_L9, ze_L10, ze_L15, ze_L16, ze_L24, ze_L40, ze_L48, ze_L63, ze_L64, ze_L127, ze_L255, ze_L400, ze_L1024, ze_L2047, ze_L65535]
          · simp (disch := omega) only [zs_Ref_build_L25_body, zs_Ref_build_J49, zs_Ref_fails, cM, ↓zd_bnd, ↓zy_bm, if_true, if_false, ite_true, ite_false, ↓reduceIte, Bool.false_eq_true, Bool.true_eq_false, eq_self, true_and, and_true, false_and, and_false, reduceCtorEq, decide_true, decide_false, not_true_eq_false, not_false_eq_true, ze_ltT, ze_ltF, ze_leT, ze_leF, ze_eqT, ze_eqF, ze_mlt, ze_ltm, ze_mle, ze_lem, ze_meq, ze_eqm, ze_mm, ze_mltm, ze_inT, ze_inF, ze_inM, ze_cl, ze_fin, ze_decT, ze_decF, Nat.reduceSub, Nat.reduceMul, nI_add, Nat.add_sub_cancel, Nat.add_assoc, Nat.reduceAdd, ze_r8, ze_r24, ze_r40, ze_r400, ze_l8, ze_l16, ze_l24, ze_l40, ze_sub, ze_am1, ze_es, ze_en, ze_i64, ze_m64, ze_64i, ze_64m, ze_LltT, ze_LltF, ze_LleT, ze_LleF, ze_LeqT, ze_LeqF, ze_Lmlt, ze_Lltm, ze_Lmle, ze_Llem, ze_Lmeq, ze_Leqm, ze_Lmm, lN_add, ze_ch, ze_chd, ze_bt, ze_bf, ze_n0, ze_n1, ze_n2, ze_n3, ze_n4, ze_n5, ze_n6, ze_n7, ze_n8, ze_n9, ze_n10, ze_n11, ze_n12, ze_n13, ze_n14, ze_n15, ze_n16, ze_n17, ze_n18, ze_n19, ze_n20, ze_n21, ze_n22, ze_n23, ze_n24, ze_n25, ze_n26, ze_n27, ze_n28, ze_n29, ze_n30, ze_n31, ze_n32, ze_n33, ze_n34, ze_n35, ze_n36, ze_n37, ze_n38, ze_n39, ze_n40, ze_n48, ze_n63, ze_n64, ze_n65, ze_n80, ze_n100, ze_n128, ze_n200, ze_n255, ze_n300, ze_n320, ze_n384, ze_n400, ze_n512, ze_n1023, ze_n1600, ze_n6400, ze_n9600, ze_n32768, ze_n65535, ze_n65536, ze_n802, ze_n8191, ze_L0, ze_L1, ze_L2, ze_L3, ze_L4, ze_L5, ze_L6, ze_L7, ze_L8, ze_L9, ze_L10, ze_L15, ze_L16, ze_L24, ze_L40, ze_L48, ze_L63, ze_L64, ze_L127, ze_L255, ze_L400, ze_L1024, ze_L2047, ze_L65535]
        show zs_Ref_build_L25_body (zs_Ref_build_L25_body (zx_loop (fun _ _ _ => none) zs_Ref_build_L25_body F)) false (nI p) h = _
        refine Eq.trans ?_ st
        generalize zs_Ref_build_L25_body (zx_loop (fun _ _ _ => none) zs_Ref_build_L25_body F) = k9
        simp (disch := omega) only [zs_Ref_build_L25_body, zd_R_M H, f, ↓zd_bnd, ↓zy_bm, if_true, if_false, ite_true, ite_false, ↓reduceIte, Bool.false_eq_true, Bool.true_eq_false, eq_self, true_and, and_true, false_and, and_false, reduceCtorEq, decide_true, decide_false, not_true_eq_false, not_false_eq_true, ze_ltT, ze_ltF, ze_leT, ze_leF, ze_eqT, ze_eqF, ze_mlt, ze_ltm, ze_mle, ze_lem, ze_meq, ze_eqm, ze_mm, ze_mltm, ze_inT, ze_inF, ze_inM, ze_cl, ze_fin, ze_decT, ze_decF, Nat.reduceSub, Nat.reduceMul, nI_add, Nat.add_sub_cancel, Nat.add_assoc, Nat.reduceAdd, ze_r8, ze_r24, ze_r40, ze_r400, ze_l8, ze_l16, ze_l24, ze_l40, ze_sub, ze_am1, ze_es, ze_en, ze_i64, ze_m64, ze_64i, ze_64m, ze_LltT, ze_LltF, ze_LleT, ze_LleF, ze_LeqT, ze_LeqF, ze_Lmlt, ze_Lltm, ze_Lmle, ze_Llem, ze_Lmeq, ze_Leqm, ze_Lmm, lN_add, ze_ch, ze_chd, ze_bt, ze_bf, ze_n0, ze_n1, ze_n2, ze_n3, ze_n4, ze_n5, ze_n6, ze_n7, ze_n8, ze_n9, ze_n10, ze_n11, ze_n12, ze_n13, ze_n14, ze_n15, ze_n16, ze_n17, ze_n18, ze_n19, ze_n20, ze_n21, ze_n22, ze_n23, ze_n24, ze_n25, ze_n26, ze_n27, ze_n28, ze_n29, ze_n30, ze_n31, ze_n32, ze_n33, ze_n34, ze_n35, ze_n36, ze_n37, ze_n38, ze_n39, ze_n40, ze_n48, ze_n63, ze_n64, ze_n65, ze_n80, ze_n100, ze_n128, ze_n200, ze_n255, ze_n300, ze_n320, ze_n384, ze_n400, ze_n512, ze_n1023, ze_n1600, ze_n6400, ze_n9600, ze_n32768, ze_n65535, ze_n65536, ze_n802, ze_n8191, ze_L0, ze_L1, ze_L2, ze_L3, ze_L4, ze_L5, ze_L6, ze_L7, ze_L8, ze_L9, ze_L10, ze_L15, ze_L16, ze_L24, ze_L40, ze_L48, ze_L63, ze_L64, ze_L127, ze_L255, ze_L400, ze_L1024, ze_L2047, ze_L65535])
    (fun F p hp hc => by
      have f := zp_R_isFaulty H K hp
      cases ed : zp_dm A p with
      | some nq => rw [ed] at hc; cases hc
      | none =>
        rw [ed] at f
        have f : zs_Ref_isFaulty (nI p) h = some (false, h) := f
        show zs_Ref_build_L25_body _ false (nI p) h = _
        simp (disch := omega) only [zs_Ref_build_L25_body, zd_R_M H, f, ↓zd_bnd, ↓zy_bm, if_true, if_false, ite_true, ite_false, ↓reduceIte, Bool.false_eq_true, Bool.true_eq_false, eq_self, true_and, and_true, false_and, and_false, reduceCtorEq, decide_true, decide_false, not_true_eq_false, not_false_eq_true, ze_ltT, ze_ltF, ze_leT, ze_leF, ze_eqT, ze_eqF, ze_mlt, ze_ltm, ze_mle, ze_lem, ze_meq, ze_eqm, ze_mm, ze_mltm, ze_inT, ze_inF, ze_inM, ze_cl, ze_fin, ze_decT, ze_decF, Nat.reduceSub, Nat.reduceMul, nI_add, Nat.add_sub_cancel, Nat.add_assoc, Nat.reduceAdd, ze_r8, ze_r24, ze_r40, ze_r400, ze_l8, ze_l16, ze_l24, ze_l40, ze_sub, ze_am1, ze_es, ze_en, ze_i64, ze_m64, ze_64i, ze_64m, ze_LltT, ze_LltF, ze_LleT, ze_LleF, ze_LeqT, ze_LeqF, ze_Lmlt, ze_Lltm, ze_Lmle, ze_Llem, ze_Lmeq, ze_Leqm, ze_Lmm, lN_add, ze_ch, ze_chd, ze_bt, ze_bf, ze_n0, ze_n1, ze_n2, ze_n3, ze_n4, ze_n5, ze_n6, ze_n7, ze_n8, ze_n9, ze_n10, ze_n11, ze_n12, ze_n13, ze_n14, ze_n15, ze_n16, ze_n17, ze_n18, ze_n19, ze_n20, ze_n21, ze_n22, ze_n23, ze_n24, ze_n25, ze_n26, ze_n27, ze_n28, ze_n29, ze_n30, ze_n31, ze_n32, ze_n33, ze_n34, ze_n35, ze_n36, ze_n37, ze_n38, ze_n39, ze_n40, ze_n48, ze_n63, ze_n64, ze_n65, ze_n80, ze_n100, ze_n128, ze_n200, ze_n255, ze_n300, ze_n320, ze_n384, ze_n400, ze_n512, ze_n1023, ze_n1600, ze_n6400, ze_n9600, ze_n32768, ze_n65535, ze_n65536, ze_n802, ze_n8191, ze_L0, ze_L1, ze_L2, ze_L3, ze_L4, ze_L5, ze_L6, ze_L7, ze_L8, ze_L9, ze_L10, ze_L15, ze_L16, ze_L24, ze_L40, ze_L48, ze_L63, ze_L64, ze_L127, ze_L255, ze_L400, ze_L1024, ze_L2047, ze_L65535]
        rfl)
    (fun F => by
      show zs_Ref_build_L25_body _ false (nI (zd_M A)) h = _
      simp (disch := omega) only [zs_Ref_build_L25_body, zs_Ref_build_J49, zd_R_M H, ↓zd_bnd, ↓zy_bm, if_true, if_false, ite_true, ite_false, ↓reduceIte, Bool.false_eq_true, Bool.true_eq_false, eq_self, true_and, and_true, false_and, and_false, reduceCtorEq, decide_true, decide_false, not_true_eq_false, not_false_eq_true, ze_ltT, ze_ltF, ze_leT, ze_leF, ze_eqT, ze_eqF, ze_mlt, ze_ltm, ze_mle, ze_lem, ze_meq, ze_eqm, ze_mm, ze_mltm, ze_inT, ze_inF, ze_inM, ze_cl, ze_fin, ze_decT, ze_decF, Nat.reduceSub, Nat.reduceMul, nI_add, Nat.add_sub_cancel, Nat.add_assoc, Nat.reduceAdd, ze_r8, ze_r24, ze_r40, ze_r400, ze_l8, ze_l16, ze_l24, ze_l40, ze_sub, ze_am1, ze_es, ze_en, ze_i64, ze_m64, ze_64i, ze_64m, ze_LltT, ze_LltF, ze_LleT, ze_LleF, ze_LeqT, ze_LeqF, ze_Lmlt, ze_Lltm, ze_Lmle, ze_Llem, ze_Lmeq, ze_Leqm, ze_Lmm, lN_add, ze_ch, ze_chd, ze_bt, ze_bf, ze_n0, ze_n1, ze_n2, ze_n3, ze_n4, ze_n5, ze_n6, ze_n7, ze_n8, ze_n9, ze_n10, ze_n11, ze_n12, ze_n13, ze_n14, ze_n15, ze_n16, ze_n17, ze_n18, ze_n19, ze_n20, ze_n21, ze_n22, ze_n23, ze_n24, ze_n25, ze_n26, ze_n27, ze_n28, ze_n29, ze_n30, ze_n31, ze_n32, ze_n33, ze_n34, ze_n35, ze_n36, ze_n37, ze_n38, ze_n39, ze_n40, ze_n48, ze_n63, ze_n64, ze_n65, ze_n80, ze_n100, ze_n128, ze_n200, ze_n255, ze_n300, ze_n320, ze_n384, ze_n400, ze_n512, ze_n1023, ze_n1600, ze_n6400, ze_n9600, ze_n32768, ze_n65535, ze_n65536, ze_n802, ze_n8191, ze_L0, ze_L1, ze_L2, ze_L3, ze_L4, ze_L5, ze_L6, ze_L7, ze_L8, ze_L9, ze_L10, ze_L15, ze_L16, ze_L24, ze_L40, ze_L48, ze_L63, ze_L64, ze_L127, ze_L255, ze_L400, ze_L1024, ze_L2047, ze_L65535, ze_gIs, ze_gIn, ze_gJs, ze_gJn, zd_gI2, zd_gJ1, ze_sII])
    zx_fuel (by unfold zx_fuel; omega)
  have key : zs_Ref_build_L25 false (nI 0) h = _ := key
  rw [key]
  show (match zp_da A with | some p => _ | none => _) = _
  cases zp_da A <;> rfl
theorem zo_build {h : zx_H} (S : zd_S zq_Q h) : zd_turn zq_Q (zs_Law_build h) zs_Ref_build := by
  obtain ⟨A, HC, HR, K, HQ⟩ := S
  have hM := zd_ok_M K
  have hB := zd_ok_B K
  rw [zd_law_build]
  by_cases hb0 : zd_B A = 0
  case neg =>
    exact zg_no zq_Q_ok (n := 2) (Or.inr rfl) HC HR K HQ (v := 0) (b := nI 0) (by simp (disch := omega) only [zs_Loom_build, zd_C_B HC, ↓zd_bnd, ↓zy_bm, if_true, if_false, ite_true, ite_false, ↓reduceIte, Bool.false_eq_true, Bool.true_eq_false, eq_self, true_and, and_true, false_and, and_false, reduceCtorEq, decide_true, decide_false, not_true_eq_false, not_false_eq_true, ze_ltT, ze_ltF, ze_leT, ze_leF, ze_eqT, ze_eqF, ze_mlt, ze_ltm, ze_mle, ze_lem, ze_meq, ze_eqm, ze_mm, ze_mltm, ze_inT, ze_inF, ze_inM, ze_cl, ze_fin, ze_decT, ze_decF, Nat.reduceSub, Nat.reduceMul, nI_add, Nat.add_sub_cancel, Nat.add_assoc, Nat.reduceAdd, ze_r8, ze_r24, ze_r40, ze_r400, ze_l8, ze_l16, ze_l24, ze_l40, ze_sub, ze_am1, ze_es, ze_en, ze_i64, ze_m64, ze_64i, ze_64m, ze_LltT, ze_LltF, ze_LleT, ze_LleF, ze_LeqT, ze_LeqF, ze_Lmlt, ze_Lltm, ze_Lmle, ze_Llem, ze_Lmeq, ze_Leqm, ze_Lmm, lN_add, ze_ch, ze_chd, ze_bt, ze_bf, ze_n0, ze_n1, ze_n2, ze_n3, ze_n4, ze_n5, ze_n6, ze_n7, ze_n8, ze_n9, ze_n10, ze_n11, ze_n12, ze_n13, ze_n14, ze_n15, ze_n16, ze_n17, ze_n18, ze_n19, ze_n20, ze_n21, ze_n22, ze_n23, ze_n24, ze_n25, ze_n26, ze_n27, ze_n28, ze_n29, ze_n30, ze_n31, ze_n32, ze_n33, ze_n34, ze_n35, ze_n36, ze_n37, ze_n38, ze_n39, ze_n40, ze_n48, ze_n63, ze_n64, ze_n65, ze_n80, ze_n100, ze_n128, ze_n200, ze_n255, ze_n300, ze_n320, ze_n384, ze_n400, ze_n512, ze_n1023, ze_n1600, ze_n6400, ze_n9600, ze_n32768, ze_n65535, ze_n65536, ze_n802, ze_n8191, ze_L0, ze_L1, ze_L2, ze_L3, ze_L4, ze_L5, ze_L6, ze_L7, ze_L8, ze_L9, ze_L10, ze_L15, ze_L16, ze_L24, ze_L40, ze_L48, ze_L63, ze_L64, ze_L127, ze_L255, ze_L400, ze_L1024, ze_L2047, ze_L65535]) (by simp (disch := omega) only [zs_Ref_fails, zs_Ref_build, zd_R_B HR, ↓zd_bnd, ↓zy_bm, if_true, if_false, ite_true, ite_false, ↓reduceIte, Bool.false_eq_true, Bool.true_eq_false, eq_self, true_and, and_true, false_and, and_false, reduceCtorEq, decide_true, decide_false, not_true_eq_false, not_false_eq_true, ze_ltT, ze_ltF, ze_leT, ze_leF, ze_eqT, ze_eqF, ze_mlt, ze_ltm, ze_mle, ze_lem, ze_meq, ze_eqm, ze_mm, ze_mltm, ze_inT, ze_inF, ze_inM, ze_cl, ze_fin, ze_decT, ze_decF, Nat.reduceSub, Nat.reduceMul, nI_add, Nat.add_sub_cancel, Nat.add_assoc, Nat.reduceAdd, ze_r8, ze_r24, ze_r40, ze_r400, ze_l8, ze_l16, ze_l24, ze_l40, ze_sub, ze_am1, ze_es, ze_en, ze_i64, ze_m64, ze_64i, ze_64m, ze_LltT, ze_LltF, ze_LleT, ze_LleF, ze_LeqT, ze_LeqF, ze_Lmlt, ze_Lltm, ze_Lmle, ze_Llem, ze_Lmeq, ze_Leqm, ze_Lmm, lN_add, ze_ch, ze_chd, ze_bt, ze_bf, ze_n0, ze_n1, ze_n2, ze_n3, ze_n4, ze_n5, ze_n6, ze_n7, ze_n8, ze_n9, ze_n10, ze_n11, ze_n12, ze_n13, ze_n14, ze_n15, ze_n16, ze_n17, ze_n18, ze_n19, ze_n20, ze_n21, ze_n22, ze_n23, ze_n24, ze_n25, ze_n26, ze_n27, ze_n28, ze_n29, ze_n30, ze_n31, ze_n32, ze_n33, ze_n34, ze_n35, ze_n36, ze_n37, ze_n38, ze_n39, ze_n40, ze_n48, ze_n63, ze_n64, ze_n65, ze_n80, ze_n100, ze_n128, ze_n200, ze_n255, ze_n300, ze_n320, ze_n384, ze_n400, ze_n512, ze_n1023, ze_n1600, ze_n6400, ze_n9600, ze_n32768, ze_n65535, ze_n65536, ze_n802, ze_n8191, ze_L0, ze_L1, ze_L2, ze_L3, ze_L4, ze_L5, ze_L6, ze_L7, ze_L8, ze_L9, ze_L10, ze_L15, ze_L16, ze_L24, ze_L40, ze_L48, ze_L63, ze_L64, ze_L127, ze_L255, ze_L400, ze_L1024, ze_L2047, ze_L65535])
  obtain ⟨k, p1, p2, p3, p4, p5, p6, p7⟩ := zp_C_planAll HC K
  have HRk := zd_R_same p3 HR
  have HCk := zq_C HC p2
  rw [p4, p5, p6] at HCk
  have HR1 := zg_R_dg HRk (nI 0) (-nI 1) (-nI 1)
  have K1 := zq_ok K (nI 0) (-nI 1) (-nI 1)
  have b25 := zp_R_build25 HR1 K1 rfl rfl rfl
  have da1 : zp_da (zg_dg A (nI 0) (-nI 1) (-nI 1)) = zp_da A := by
    unfold zp_da
    simp only [zq_dm]
    rfl
  rw [da1] at b25
  have rb : ∀ (s : zx_H), zd_R A s → zs_Ref_build s = zs_Ref_build_L25 false (nI 0) (zx_sI (zx_sI (zx_sI s 24 0 20 (nI 0)) 24 0 21 (-nI 1)) 24 0 22 (-nI 1)) := fun s hs => by
    simp (disch := omega) only [zs_Ref_build, zs_Ref_faulty, zd_R_B hs, hb0, ↓zd_bnd, ↓zy_bm, if_true, if_false, ite_true, ite_false, ↓reduceIte, Bool.false_eq_true, Bool.true_eq_false, eq_self, true_and, and_true, false_and, and_false, reduceCtorEq, decide_true, decide_false, not_true_eq_false, not_false_eq_true, ze_ltT, ze_ltF, ze_leT, ze_leF, ze_eqT, ze_eqF, ze_mlt, ze_ltm, ze_mle, ze_lem, ze_meq, ze_eqm, ze_mm, ze_mltm, ze_inT, ze_inF, ze_inM, ze_cl, ze_fin, ze_decT, ze_decF, Nat.reduceSub, Nat.reduceMul, nI_add, Nat.add_sub_cancel, Nat.add_assoc, Nat.reduceAdd, ze_r8, ze_r24, ze_r40, ze_r400, ze_l8, ze_l16, ze_l24, ze_l40, ze_sub, ze_am1, ze_es, ze_en, ze_i64, ze_m64, ze_64i, ze_64m, ze_LltT, ze_LltF, ze_LleT, ze_LleF, ze_LeqT, ze_LeqF, ze_Lmlt, ze_Lltm, ze_Lmle, ze_Llem, ze_Lmeq, ze_Leqm, ze_Lmm, lN_add, ze_ch, ze_chd, ze_bt, ze_bf, ze_n0, ze_n1, ze_n2, ze_n3, ze_n4, ze_n5, ze_n6, ze_n7, ze_n8, ze_n9, ze_n10, ze_n11, ze_n12, ze_n13, ze_n14, ze_n15, ze_n16, ze_n17, ze_n18, ze_n19, ze_n20, ze_n21, ze_n22, ze_n23, ze_n24, ze_n25, ze_n26, ze_n27, ze_n28, ze_n29, ze_n30, ze_n31, ze_n32, ze_n33, ze_n34, ze_n35, ze_n36, ze_n37, ze_n38, ze_n39, ze_n40, ze_n48, ze_n63, ze_n64, ze_n65, ze_n80, ze_n100, ze_n128, ze_n200, ze_n255, ze_n300, ze_n320, ze_n384, ze_n400, ze_n512, ze_n1023, ze_n1600, ze_n6400, ze_n9600, ze_n32768, ze_n65535, ze_n65536, ze_n802, ze_n8191, ze_L0, ze_L1, ze_L2, ze_L3, ze_L4, ze_L5, ze_L6, ze_L7, ze_L8, ze_L9, ze_L10, ze_L15, ze_L16, ze_L24, ze_L40, ze_L48, ze_L63, ze_L64, ze_L127, ze_L255, ze_L400, ze_L1024, ze_L2047, ze_L65535]
  cases ed : zp_da A with
  | some m =>
    obtain ⟨m1, m2, m3⟩ := zd_first_some.mp ed
    cases em : zp_dm A m with
    | none => rw [em] at m2; cases m2
    | some nq =>
      obtain ⟨n, q⟩ := nq
      have hn := zp_dm_rng em
      have dx : zp_dx A = (nI n, nI m, q) := by
        unfold zp_dx
        rw [ed]
        show (match zp_dm A m with | none => _ | some (n, q) => _) = _
        rw [em]
      rw [ed] at b25
      have b25 : zs_Ref_build_L25 false (nI 0) (zx_sI (zx_sI (zx_sI k 24 0 20 (nI 0)) 24 0 21 (-nI 1)) 24 0 22 (-nI 1)) = (match zp_dm (zg_dg A (nI 0) (-nI 1) (-nI 1)) m with | none => none | some (n, q) => some (nI 0, zx_sI (zp_fs (zx_sI (zx_sI (zx_sI k 24 0 20 (nI 0)) 24 0 21 (-nI 1)) 24 0 22 (-nI 1)) n m q) 24 0 0 (nI 1))) := b25
      rw [zq_dm, em] at b25
      have b25 : zs_Ref_build_L25 false (nI 0) (zx_sI (zx_sI (zx_sI k 24 0 20 (nI 0)) 24 0 21 (-nI 1)) 24 0 22 (-nI 1)) = some (nI 0, zx_sI (zp_fs (zx_sI (zx_sI (zx_sI k 24 0 20 (nI 0)) 24 0 21 (-nI 1)) 24 0 22 (-nI 1)) n m q) 24 0 0 (nI 1)) := b25
      rw [dx] at HCk p4
      have s2 : zd_sC k (zx_sI (zp_fs (zx_sI (zx_sI (zx_sI k 24 0 20 (nI 0)) 24 0 21 (-nI 1)) 24 0 22 (-nI 1)) n m q) 24 0 0 (nI 1)) := by
        unfold zp_fs
        exact zd_sC_I (zd_sC_I (zd_sC_I (zd_sC_I (zd_sC_I (zd_sC_I (zd_sC_I (zd_sC_refl k) (by unfold zd_fr; decide) _ _ _) (by unfold zd_fr; decide) _ _ _) (by unfold zd_fr; decide) _ _ _) (by unfold zd_fr; decide) _ _ _) (by unfold zd_fr; decide) _ _ _) (by unfold zd_fr; decide) _ _ _) (by unfold zd_fr; decide) _ _ _
      refine ⟨nI 1, k, nI 0, zx_sI (zp_fs (zx_sI (zx_sI (zx_sI k 24 0 20 (nI 0)) 24 0 21 (-nI 1)) 24 0 22 (-nI 1)) n m q) 24 0 0 (nI 1), ?_, (rb k HRk).trans b25, ze_gIs _ _ _ _ _, fun e => absurd e (by decide), zg_dg A (nI n) (nI m) q, zd_C_same s2 HCk, ?_, zq_ok K _ _ _, fun z => ?_⟩
      · have p4 : k.1 16 0 4 = nI n := p4
        have e1 : zs_Loom_build h = some (1, nI 0, k) := by
          simp (disch := omega) only [zs_Loom_build, zd_C_B HC, hb0, p1, p4, ↓zd_bnd, ↓zy_bm, if_true, if_false, ite_true, ite_false, ↓reduceIte, Bool.false_eq_true, Bool.true_eq_false, eq_self, true_and, and_true, false_and, and_false, reduceCtorEq, decide_true, decide_false, not_true_eq_false, not_false_eq_true, ze_ltT, ze_ltF, ze_leT, ze_leF, ze_eqT, ze_eqF, ze_mlt, ze_ltm, ze_mle, ze_lem, ze_meq, ze_eqm, ze_mm, ze_mltm, ze_inT, ze_inF, ze_inM, ze_cl, ze_fin, ze_decT, ze_decF, Nat.reduceSub, Nat.reduceMul, nI_add, Nat.add_sub_cancel, Nat.add_assoc, Nat.reduceAdd, ze_r8, ze_r24, ze_r40, ze_r400, ze_l8, ze_l16, ze_l24, ze_l40, ze_sub, ze_am1, ze_es, ze_en, ze_i64, ze_m64, ze_64i, ze_64m, ze_LltT, ze_LltF, ze_LleT, ze_LleF, ze_LeqT, ze_LeqF, ze_Lmlt, ze_Lltm, ze_Lmle, ze_Llem, ze_Lmeq, ze_Leqm, ze_Lmm, lN_add, ze_ch, ze_chd, ze_bt, ze_bf, ze_n0, ze_n1, ze_n2, ze_n3, ze_n4, ze_n5, ze_n6, ze_n7, ze_n8, ze_n9, ze_n10, ze_n11, ze_n12, ze_n13, ze_n14, ze_n15, ze_n16, ze_n17, ze_n18, ze_n19, ze_n20, ze_n21, ze_n22, ze_n23, ze_n24, ze_n25, ze_n26, ze_n27, ze_n28, ze_n29, ze_n30, ze_n31, ze_n32, ze_n33, ze_n34, ze_n35, ze_n36, ze_n37, ze_n38, ze_n39, ze_n40, ze_n48, ze_n63, ze_n64, ze_n65, ze_n80, ze_n100, ze_n128, ze_n200, ze_n255, ze_n300, ze_n320, ze_n384, ze_n400, ze_n512, ze_n1023, ze_n1600, ze_n6400, ze_n9600, ze_n32768, ze_n65535, ze_n65536, ze_n802, ze_n8191, ze_L0, ze_L1, ze_L2, ze_L3, ze_L4, ze_L5, ze_L6, ze_L7, ze_L8, ze_L9, ze_L10, ze_L15, ze_L16, ze_L24, ze_L40, ze_L48, ze_L63, ze_L64, ze_L127, ze_L255, ze_L400, ze_L1024, ze_L2047, ze_L65535]
        rw [e1]
        rfl
      · exact zd_R_thrown (zg_R_dg HR1 (nI n) (nI m) q) (nI 1)
      · exact absurd (show zd_B A = 1 from z) (by omega)
  | none =>
    have dx : zp_dx A = (nI 0, -nI 1, -nI 1) := by unfold zp_dx; rw [ed]
    rw [dx] at HCk p4
    have p4 : k.1 16 0 4 = nI 0 := p4
    have HCb := zg_C_bt HCk
    have e1 : zs_Loom_build h = some (0, nI (zd_M A), zx_sI k 0 0 5 (nI 1)) := by
      have cM := zd_C_M HCk
      have cM : k.1 11 0 3 = nI (zd_M A) := cM
      simp (disch := omega) only [zs_Loom_build, zd_C_B HC, hb0, p1, p4, cM, ↓zd_bnd, ↓zy_bm, if_true, if_false, ite_true, ite_false, ↓reduceIte, Bool.false_eq_true, Bool.true_eq_false, eq_self, true_and, and_true, false_and, and_false, reduceCtorEq, decide_true, decide_false, not_true_eq_false, not_false_eq_true, ze_ltT, ze_ltF, ze_leT, ze_leF, ze_eqT, ze_eqF, ze_mlt, ze_ltm, ze_mle, ze_lem, ze_meq, ze_eqm, ze_mm, ze_mltm, ze_inT, ze_inF, ze_inM, ze_cl, ze_fin, ze_decT, ze_decF, Nat.reduceSub, Nat.reduceMul, nI_add, Nat.add_sub_cancel, Nat.add_assoc, Nat.reduceAdd, ze_r8, ze_r24, ze_r40, ze_r400, ze_l8, ze_l16, ze_l24, ze_l40, ze_sub, ze_am1, ze_es, ze_en, ze_i64, ze_m64, ze_64i, ze_64m, ze_LltT, ze_LltF, ze_LleT, ze_LleF, ze_LeqT, ze_LeqF, ze_Lmlt, ze_Lltm, ze_Lmle, ze_Llem, ze_Lmeq, ze_Leqm, ze_Lmm, lN_add, ze_ch, ze_chd, ze_bt, ze_bf, ze_n0, ze_n1, ze_n2, ze_n3, ze_n4, ze_n5, ze_n6, ze_n7, ze_n8, ze_n9, ze_n10, ze_n11, ze_n12, ze_n13, ze_n14, ze_n15, ze_n16, ze_n17, ze_n18, ze_n19, ze_n20, ze_n21, ze_n22, ze_n23, ze_n24, ze_n25, ze_n26, ze_n27, ze_n28, ze_n29, ze_n30, ze_n31, ze_n32, ze_n33, ze_n34, ze_n35, ze_n36, ze_n37, ze_n38, ze_n39, ze_n40, ze_n48, ze_n63, ze_n64, ze_n65, ze_n80, ze_n100, ze_n128, ze_n200, ze_n255, ze_n300, ze_n320, ze_n384, ze_n400, ze_n512, ze_n1023, ze_n1600, ze_n6400, ze_n9600, ze_n32768, ze_n65535, ze_n65536, ze_n802, ze_n8191, ze_L0, ze_L1, ze_L2, ze_L3, ze_L4, ze_L5, ze_L6, ze_L7, ze_L8, ze_L9, ze_L10, ze_L15, ze_L16, ze_L24, ze_L40, ze_L48, ze_L63, ze_L64, ze_L127, ze_L255, ze_L400, ze_L1024, ze_L2047, ze_L65535, ze_gIs, ze_gIn, ze_gJs, ze_gJn, zd_gI2, zd_gJ1, ze_sII]
    have HQ1 : zq_Q (zg_bt (zg_dg A (nI 0) (-nI 1) (-nI 1))) (zx_sI k 0 0 5 (nI 1)) := fun _ m hm => by
      have P : zp_PM A k m := p7 ed m hm
      have P1 : zp_PM A (zx_sI k 0 0 5 (nI 1)) m := zp_PM_same (ze_sIF _ _ _ _ (by decide)) (ze_sIF _ _ _ _ (by decide)) (ze_sIF _ _ _ _ (by decide)) (ze_sIF _ _ _ _ (by decide)) (ze_sIF _ _ _ _ (by decide)) rfl P
      have dn : zp_dm A m = none := by
        have := zd_first_none.mp ed m hm
        cases e : zp_dm A m with
        | none => rfl
        | some z => rw [e] at this; cases this
      exact ⟨zt_PM.mpr (zq_PM.mpr P1), (zt_dm _ m).trans ((zq_dm A _ _ _ m).trans dn)⟩
    refine zd_turn_ok (A := A) (A1 := zg_bt (zg_dg A (nI 0) (-nI 1) (-nI 1))) HR e1 HCb (zd_sR_I p3 (by unfold zd_fr; decide) _ _ _) (zg_ok_bt (zq_ok K _ _ _)) (fun s hs => ?_) (fun s hs => zq_Q_ok.2 _ _ _ (zd_sC2_out hs) HQ1)
    have HRs := zg_R_dg hs (nI 0) (-nI 1) (-nI 1)
    have b2 := zp_R_build25 HRs K1 rfl rfl rfl
    rw [da1, ed] at b2
    refine ⟨_, (rb s hs).trans b2, zg_R_bt (zd_R_thrown HRs (nI 0)), zd_sC_I (zd_sC_I (zd_sC_I (zd_sC_I (zd_sC_I (zd_sC_refl s) (by unfold zd_fr; decide) _ _ _) (by unfold zd_fr; decide) _ _ _) (by unfold zd_fr; decide) _ _ _) (by unfold zd_fr; decide) _ _ _) (by unfold zd_fr; decide) _ _ _, ?_⟩
    simp (disch := omega) only [ze_gIs, ze_gIn, ze_gJs, ze_gJn, zd_gI2, zd_gJ1, ze_sII]
    rfl
