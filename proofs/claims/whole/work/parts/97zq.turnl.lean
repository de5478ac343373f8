/-! a turn at a list -/
theorem zm_turnL {A : zd_A} {hc hr : zx_H} (HC : zd_C A hc) (HR : zd_R A hr) (K : zd_ok A) (PQ : ∀ m, m < zd_M A → zp_PM A hc m ∧ zp_dm A m = none) {B : zd_A} {G : zm_G} {s k : zx_H} (L : zm_LS A hc hr B G s k) {i o t q : Nat} (hh : G.1.1 = i + 1) (hG : G.1.2 i = (16, o, t, q)) : ∃ s' k', (∀ kk x4 x6, x6 < 6800 → zs_Mapper_run_L32_body kk x4 (nI x6) s = kk x4 (nI (x6 + 1)) s') ∧ zs_Ref_fillList k = some k' ∧ zm_out A hc hr B G s' k' := by
  have L0 := L
  obtain ⟨HB, RB, KB, E, P, R, I, fc, fr, st⟩ := L
  have hT := zd_ok_T K
  have hM := zd_ok_M K
  have hO := zd_ok_O K
  have hOB := zd_ok_O KB
  have hi : i < G.1.1 := by omega
  have hi4 : i < 400 := by have := I.1; omega
  have en := I.2.2.2.1 i hi
  rw [hG] at en
  obtain ⟨ho, ht1, ht2, en⟩ := en
  have ho : o < zd_O A := ho
  have ht1 : zd_O A ≤ t := ht1
  have ht2 : t < zd_O B := ht2
  obtain ⟨_, so, stt, _, hql, hw2, d, hd, ch⟩ := en.resolve_left (fun z => by have : (16 : Nat) < zd_M A := z.1; omega)
  have so : zd_srt A (zd_ty A o) = 5 := so
  have stt : zd_srt A (zd_ty B t) = 5 := stt
  have hql : q ≤ zd_ln A o := hql
  have hw2 : 2 ≤ zp_hw A (zd_of A (zd_ty A o)) (zd_of A (zd_ty B t)) := hw2
  have hd : zd_of A (zd_ty A o) < d := hd
  have ch : zp_ch A hc d (zd_of A (zd_ty A o)) (zd_of A (zd_ty B t)) := ch
  clear en
  have sq := st i hi (by rw [hG])
  rw [hG] at sq
  have sq : q = zd_ln B t := sq
  have sA := zm_st E
  have tyo := zd_ok_ty K o ho
  have tyt := zd_ok_ty KB t ht2
  rw [sA.2.2.2.2.1] at tyt
  have ofo := zd_ok_of K _ tyo.2.1 so
  have oft := zd_ok_of K _ tyt.2.1 stt
  have l5 := zd_ok_l5 K o ho so
  obtain ⟨p22, p19, p20, p21⟩ := P.2.2.1 i hi
  obtain ⟨r47, r48, r49, r50⟩ := R.2.2.1 i hi
  rw [hG] at p22 p19 p20 p21 r47 r48 r49 r50
  have p22 : s.1 22 0 i = -nI 1 := p22
  have r47 : k.1 47 0 i = -nI 1 := r47
  have p19 : s.1 19 0 i = nI o := p19
  have p20 : s.1 20 0 i = nI t := p20
  have p21 : s.1 21 0 i = nI q := p21
  have r48 : k.1 48 0 i = nI o := r48
  have r49 : k.1 49 0 i = nI t := r49
  have r50 : k.1 50 0 i = nI q := r50
  have p10 := P.2.1
  have f23 := P.1
  have r32 := R.2.1
  have f37 := R.1
  rw [hh] at p10 r32
  have lo : k.1 41 0 o = nI (zd_ln A o) := (fr.2.2.1 o ho).2.trans (zd_R_ln HR o ho)
  have hG2 : G.1.1 - 1 = i := by omega
  -- the class's heap, with the next place noted
  have HB0 : zd_C B (zx_sI s 21 0 i (nI (q + 1))) := zm_C_old HB KB (zd_fC_I (zd_fC_refl _ s) _ (by omega)) (by simp (disch := omega) only [ze_gIs, ze_gIn, ze_gJs, ze_gJn, zd_gI2, zd_gJ1, ze_sII]; exact zd_C_O HB)
  have XB0 : zm_C B (zx_sI s 21 0 i (nI (q + 1))) (zx_sI s 21 0 i (nI (q + 1))) (zd_O B) := ⟨zd_fC_refl _ _, zd_C_O HB0, Nat.le_refl _, hOB⟩
  have fc0 : zd_fC (zd_O A) hc (zx_sI s 21 0 i (nI (q + 1))) := zd_fC_I fc _ (by omega)
  have X0 : zm_C A hc (zx_sI s 21 0 i (nI (q + 1))) (zd_O B) := ⟨fc0, zd_C_O HB0, E.2.1, hOB⟩
  have len := zm_C_length HB0 KB XB0 ht2
  rw [← sq] at len
  have leno := zm_C_length HC K X0 ho
  have hs0 : ∀ F, F ≠ 21 → (zx_sI s 21 0 i (nI (q + 1))).1 F = s.1 F := fun F h => ze_sIF _ _ _ _ h
  have q22 : (zx_sI s 21 0 i (nI (q + 1))).1 22 0 i = -nI 1 := by rw [hs0 22 (by decide)]; exact p22
  have q19 : (zx_sI s 21 0 i (nI (q + 1))).1 19 0 i = nI o := by rw [hs0 19 (by decide)]; exact p19
  have q20 : (zx_sI s 21 0 i (nI (q + 1))).1 20 0 i = nI t := by rw [hs0 20 (by decide)]; exact p20
  by_cases cq : q = zd_ln A o
  · refine ⟨zx_sI (zx_sI s 21 0 i (nI (q + 1))) 17 0 10 (nI i), zx_sI k 24 0 32 (nI i), ?_, ?_, ?_⟩
    · intro kk x4 x6 hx
      rw [← cq] at leno
      have w10 : (zx_sI s 21 0 i (nI (q + 1))).1 17 0 10 = nI (i + 1) := by rw [hs0 17 (by decide)]; exact p10
      generalize hg : zx_sI s 21 0 i (nI (q + 1)) = s0 at *
      simp (disch := omega) only [zs_Mapper_run_L32_body, zm_n6800, zs_Mapper_run_J115, zs_Mapper_run_J145, zs_Mapper_run_J227, p10, w10, f23, p20, p21, hg, q22, q19, q20, len, leno, ↓zd_bnd, ↓zy_bm, if_true, if_false, ite_true, ite_false, ↓reduceIte, Bool.false_eq_true, Bool.true_eq_false, eq_self, true_and, and_true, false_and, and_false, reduceCtorEq, decide_true, decide_false, not_true_eq_false, not_false_eq_true, ze_ltT, ze_ltF, ze_leT, ze_leF, ze_eqT, ze_eqF, ze_mlt, ze_ltm, ze_mle, ze_lem, ze_meq, ze_eqm, ze_mm, ze_mltm, ze_inT, ze_inF, ze_inM, ze_cl, ze_fin, ze_decT, ze_decF, Nat.reduceSub, Nat.reduceMul, nI_add, Nat.add_sub_cancel, Nat.add_assoc, Nat.reduceAdd, ze_r8, ze_r24, ze_r40, ze_r400, ze_l8, ze_l16, ze_l24, ze_l40, ze_sub, ze_am1, ze_es, ze_en, ze_i64, ze_m64, ze_64i, ze_64m, ze_LltT, ze_LltF, ze_LleT, ze_LleF, ze_LeqT, ze_LeqF, ze_Lmlt, ze_Lltm, ze_Lmle, ze_Llem, ze_Lmeq, ze_Leqm, ze_Lmm, lN_add, ze_ch, ze_chd, ze_bt, ze_bf, ze_n0, ze_n1, ze_n2, ze_n3, ze_n4, ze_n5, ze_n6, ze_n7, ze_n8, ze_n9, ze_n10, ze_n11, ze_n12, ze_n13, ze_n14, ze_n15, ze_n16, ze_n17, ze_n18, ze_n19, ze_n20, ze_n21, ze_n22, ze_n23, ze_n24, ze_n25, ze_n26, ze_n27, ze_n28, ze_n29, ze_n30, ze_n31, ze_n32, ze_n33, ze_n34, ze_n35, ze_n36, ze_n37, ze_n38, ze_n39, ze_n40, ze_n48, ze_n63, ze_n64, ze_n65, ze_n80, ze_n100, ze_n128, ze_n200, ze_n255, ze_n300, ze_n320, ze_n384, ze_n400, ze_n512, ze_n1023, ze_n1600, ze_n6400, ze_n9600, ze_n32768, ze_n65535, ze_n65536, ze_n802, ze_n8191, ze_L0, ze_L1, ze_L2, ze_L3, ze_L4, ze_L5, ze_L6, ze_L7, ze_L8, ze_L9, ze_L10, ze_L15, ze_L16, ze_L24, ze_L40, ze_L48, ze_L63, ze_L64, ze_L127, ze_L255, ze_L400, ze_L1024, ze_L2047, ze_L65535]
    · rw [← cq] at lo
      simp (disch := omega) only [zs_Ref_fillList, r32, r48, r49, r50, lo, ↓zd_bnd, ↓zy_bm, if_true, if_false, ite_true, ite_false, ↓reduceIte, Bool.false_eq_true, Bool.true_eq_false, eq_self, true_and, and_true, false_and, and_false, reduceCtorEq, decide_true, decide_false, not_true_eq_false, not_false_eq_true, ze_ltT, ze_ltF, ze_leT, ze_leF, ze_eqT, ze_eqF, ze_mlt, ze_ltm, ze_mle, ze_lem, ze_meq, ze_eqm, ze_mm, ze_mltm, ze_inT, ze_inF, ze_inM, ze_cl, ze_fin, ze_decT, ze_decF, Nat.reduceSub, Nat.reduceMul, nI_add, Nat.add_sub_cancel, Nat.add_assoc, Nat.reduceAdd, ze_r8, ze_r24, ze_r40, ze_r400, ze_l8, ze_l16, ze_l24, ze_l40, ze_sub, ze_am1, ze_es, ze_en, ze_i64, ze_m64, ze_64i, ze_64m, ze_LltT, ze_LltF, ze_LleT, ze_LleF, ze_LeqT, ze_LeqF, ze_Lmlt, ze_Lltm, ze_Lmle, ze_Llem, ze_Lmeq, ze_Leqm, ze_Lmm, lN_add, ze_ch, ze_chd, ze_bt, ze_bf, ze_n0, ze_n1, ze_n2, ze_n3, ze_n4, ze_n5, ze_n6, ze_n7, ze_n8, ze_n9, ze_n10, ze_n11, ze_n12, ze_n13, ze_n14, ze_n15, ze_n16, ze_n17, ze_n18, ze_n19, ze_n20, ze_n21, ze_n22, ze_n23, ze_n24, ze_n25, ze_n26, ze_n27, ze_n28, ze_n29, ze_n30, ze_n31, ze_n32, ze_n33, ze_n34, ze_n35, ze_n36, ze_n37, ze_n38, ze_n39, ze_n40, ze_n48, ze_n63, ze_n64, ze_n65, ze_n80, ze_n100, ze_n128, ze_n200, ze_n255, ze_n300, ze_n320, ze_n384, ze_n400, ze_n512, ze_n1023, ze_n1600, ze_n6400, ze_n9600, ze_n32768, ze_n65535, ze_n65536, ze_n802, ze_n8191, ze_L0, ze_L1, ze_L2, ze_L3, ze_L4, ze_L5, ze_L6, ze_L7, ze_L8, ze_L9, ze_L10, ze_L15, ze_L16, ze_L24, ze_L40, ze_L48, ze_L63, ze_L64, ze_L127, ze_L255, ze_L400, ze_L1024, ze_L2047, ze_L65535]
    · have := zm_out_pop L0 (by omega) (by rw [hG2, hG]; show q ≤ 16; omega) (nI (q + 1))
      rw [hG2] at this
      exact this
  · have hq : q < zd_ln A o := by omega
    have RB0 : zd_R B (zx_sI k 50 0 i (nI (q + 1))) := zm_R_old RB KB (zd_fR_I (zd_fR_refl _ k) _ (by omega)) (by simp (disch := omega) only [ze_gIs, ze_gIn, ze_gJs, ze_gJn, zd_gI2, zd_gJ1, ze_sII]; exact zd_R_O RB)
    have fr0 : zd_fR (zd_O A) hr (zx_sI k 50 0 i (nI (q + 1))) := zd_fR_I fr _ (by omega)
    have P0 := zm_C_bump P i
    have R0 := zm_R_bump R i
    rw [hG] at P0 R0
    have P0 : zm_CP (zm_bump G i) (zx_sI s 21 0 i (nI (q + 1))) := P0
    have R0 : zm_RP (zm_bump G i) (zx_sI k 50 0 i (nI (q + 1))) := R0
    have I0 : zm_inv A hc B (zm_bump G i) := zm_inv_bump I (by rw [hG]; intro z; have : (16 : Nat) < zd_M A := z; omega) (by rw [hG]; exact fun _ => hq)
    have phB : zm_Ph B (zm_bump G i) + 1 ≤ zm_Ph B G := by
      have := zm_ps_bump G (by omega) (by rw [hG2, hG]; show q ≤ 16; omega)
      rw [hG2] at this
      show 17 * (400 - zd_O B) + _ + 1 ≤ 17 * (400 - zd_O B) + _
      omega
    -- the reference's heap, with the place counted
    have R1 := zm_RP_I R0 (F := 41) (by decide) 0 t (nI (q + 1))
    have fr1 : zd_fR (zd_O A) hr (zx_sI (zx_sI k 50 0 i (nI (q + 1))) 41 0 t (nI (q + 1))) := zd_fR_I fr0 _ (by omega)
    have Y1 : zm_R A hr (zx_sI (zx_sI k 50 0 i (nI (q + 1))) 41 0 t (nI (q + 1))) (zd_O B) := ⟨fr1, by simp (disch := omega) only [ze_gIs, ze_gIn, ze_gJs, ze_gJn, zd_gI2, zd_gJ1, ze_sII]; exact zd_R_O RB, E.2.1, hOB⟩
    obtain ⟨z, z1, z2, z3, z4⟩ := zm_become HC HR K PQ E rfl X0 Y1 P0 R1 I0 HB0 RB KB f37 (a := zd_of A (zd_ty A o)) (b := zd_of A (zd_ty B t)) (by omega) (by omega) hw2 (fun _ => ⟨d, hd, ch⟩) (l5.2 q hq)
    have kn : zs_Ways_known (nI (zd_of A (zd_ty A o))) (nI (zd_of A (zd_ty B t))) (zx_sI s 21 0 i (nI (q + 1))) = some (zp_cw (zp_hw A (zd_of A (zd_ty A o)) (zd_of A (zd_ty B t)))) := by
      rw [zm_C_known HC K X0 (show zd_of A (zd_ty A o) < zd_T A by omega) (show zd_of A (zd_ty B t) < zd_T A by omega), zm_hw1 hw2]
      cases d with
      | zero => omega
      | succ d => rw [ch.1]
    have cls : ∀ s', zs_Mapper_fillList (nI o) (nI t) (nI q) (zx_sI s 21 0 i (nI (q + 1))) = some s' → ∀ kk x4 x6, x6 < 6800 → zs_Mapper_run_L32_body kk x4 (nI x6) s = kk x4 (nI (x6 + 1)) s' := by
      intro s' e kk x4 x6 hx
      generalize hg : zx_sI s 21 0 i (nI (q + 1)) = s0 at *
      simp (disch := omega) only [zs_Mapper_run_L32_body, zm_n6800, zs_Mapper_run_J115, zs_Mapper_run_J158, zs_Mapper_run_J227, p10, f23, p21, hg, q22, q19, q20, len, leno, e, ↓zd_bnd, ↓zy_bm, if_true, if_false, ite_true, ite_false, ↓reduceIte, Bool.false_eq_true, Bool.true_eq_false, eq_self, true_and, and_true, false_and, and_false, reduceCtorEq, decide_true, decide_false, not_true_eq_false, not_false_eq_true, ze_ltT, ze_ltF, ze_leT, ze_leF, ze_eqT, ze_eqF, ze_mlt, ze_ltm, ze_mle, ze_lem, ze_meq, ze_eqm, ze_mm, ze_mltm, ze_inT, ze_inF, ze_inM, ze_cl, ze_fin, ze_decT, ze_decF, Nat.reduceSub, Nat.reduceMul, nI_add, Nat.add_sub_cancel, Nat.add_assoc, Nat.reduceAdd, ze_r8, ze_r24, ze_r40, ze_r400, ze_l8, ze_l16, ze_l24, ze_l40, ze_sub, ze_am1, ze_es, ze_en, ze_i64, ze_m64, ze_64i, ze_64m, ze_LltT, ze_LltF, ze_LleT, ze_LleF, ze_LeqT, ze_LeqF, ze_Lmlt, ze_Lltm, ze_Lmle, ze_Llem, ze_Lmeq, ze_Leqm, ze_Lmm, lN_add, ze_ch, ze_chd, ze_bt, ze_bf, ze_n0, ze_n1, ze_n2, ze_n3, ze_n4, ze_n5, ze_n6, ze_n7, ze_n8, ze_n9, ze_n10, ze_n11, ze_n12, ze_n13, ze_n14, ze_n15, ze_n16, ze_n17, ze_n18, ze_n19, ze_n20, ze_n21, ze_n22, ze_n23, ze_n24, ze_n25, ze_n26, ze_n27, ze_n28, ze_n29, ze_n30, ze_n31, ze_n32, ze_n33, ze_n34, ze_n35, ze_n36, ze_n37, ze_n38, ze_n39, ze_n40, ze_n48, ze_n63, ze_n64, ze_n65, ze_n80, ze_n100, ze_n128, ze_n200, ze_n255, ze_n300, ze_n320, ze_n384, ze_n400, ze_n512, ze_n1023, ze_n1600, ze_n6400, ze_n9600, ze_n32768, ze_n65535, ze_n65536, ze_n802, ze_n8191, ze_L0, ze_L1, ze_L2, ze_L3, ze_L4, ze_L5, ze_L6, ze_L7, ze_L8, ze_L9, ze_L10, ze_L15, ze_L16, ze_L24, ze_L40, ze_L48, ze_L63, ze_L64, ze_L127, ze_L255, ze_L400, ze_L1024, ze_L2047, ze_L65535]
    have fl : zs_Mapper_fillList (nI o) (nI t) (nI q) (zx_sI s 21 0 i (nI (q + 1))) = (zs_Mapper_become (zp_cw (zp_hw A (zd_of A (zd_ty A o)) (zd_of A (zd_ty B t)))) (nI (zd_of A (zd_ty A o))) (nI (zd_of A (zd_ty B t))) (zd_vl A o q) (zx_sI s 21 0 i (nI (q + 1)))).bind (fun r7 => (zs_Store_append (nI t) r7.1 r7.2).bind (fun r8 => some r8.2)) := by
      have t1 := zm_C_typeOf HC K X0 ho
      have t2 := zm_C_element HC K X0 tyo.2.1 so
      have t3 := zm_C_typeOf HB0 KB XB0 ht2
      have t4 := zm_C_element HC K X0 tyt.2.1 stt
      have t5 := zm_C_cell HC K X0 ho hq
      simp (disch := omega) only [zs_Mapper_fillList, t1, t2, t3, t4, kn, t5, ↓zd_bnd, ↓zy_bm, if_true, if_false, ite_true, ite_false, ↓reduceIte, Bool.false_eq_true, Bool.true_eq_false, eq_self, true_and, and_true, false_and, and_false, reduceCtorEq, decide_true, decide_false, not_true_eq_false, not_false_eq_true, ze_ltT, ze_ltF, ze_leT, ze_leF, ze_eqT, ze_eqF, ze_mlt, ze_ltm, ze_mle, ze_lem, ze_meq, ze_eqm, ze_mm, ze_mltm, ze_inT, ze_inF, ze_inM, ze_cl, ze_fin, ze_decT, ze_decF, Nat.reduceSub, Nat.reduceMul, nI_add, Nat.add_sub_cancel, Nat.add_assoc, Nat.reduceAdd, ze_r8, ze_r24, ze_r40, ze_r400, ze_l8, ze_l16, ze_l24, ze_l40, ze_sub, ze_am1, ze_es, ze_en, ze_i64, ze_m64, ze_64i, ze_64m, ze_LltT, ze_LltF, ze_LleT, ze_LleF, ze_LeqT, ze_LeqF, ze_Lmlt, ze_Lltm, ze_Lmle, ze_Llem, ze_Lmeq, ze_Leqm, ze_Lmm, lN_add, ze_ch, ze_chd, ze_bt, ze_bf, ze_n0, ze_n1, ze_n2, ze_n3, ze_n4, ze_n5, ze_n6, ze_n7, ze_n8, ze_n9, ze_n10, ze_n11, ze_n12, ze_n13, ze_n14, ze_n15, ze_n16, ze_n17, ze_n18, ze_n19, ze_n20, ze_n21, ze_n22, ze_n23, ze_n24, ze_n25, ze_n26, ze_n27, ze_n28, ze_n29, ze_n30, ze_n31, ze_n32, ze_n33, ze_n34, ze_n35, ze_n36, ze_n37, ze_n38, ze_n39, ze_n40, ze_n48, ze_n63, ze_n64, ze_n65, ze_n80, ze_n100, ze_n128, ze_n200, ze_n255, ze_n300, ze_n320, ze_n384, ze_n400, ze_n512, ze_n1023, ze_n1600, ze_n6400, ze_n9600, ze_n32768, ze_n65535, ze_n65536, ze_n802, ze_n8191, ze_L0, ze_L1, ze_L2, ze_L3, ze_L4, ze_L5, ze_L6, ze_L7, ze_L8, ze_L9, ze_L10, ze_L15, ze_L16, ze_L24, ze_L40, ze_L48, ze_L63, ze_L64, ze_L127, ze_L255, ze_L400, ze_L1024, ze_L2047, ze_L65535]
    have ref : ∀ v k1, zs_Ref_become (nI (zd_of A (zd_ty A o))) (nI (zd_of A (zd_ty B t))) (zd_vl A o q) (zx_sI (zx_sI k 50 0 i (nI (q + 1))) 41 0 t (nI (q + 1))) = some (v, k1) → zs_Ref_fillList k = some (zx_sJ k1 42 0 (16 * t + q) v) := by
      intro v k1 e
      have cqF : (nI q = nI (zd_ln A o)) = False := by have := l5.1; simp (disch := omega) only [↓zd_bnd, ↓zy_bm, if_true, if_false, ite_true, ite_false, ↓reduceIte, Bool.false_eq_true, Bool.true_eq_false, eq_self, true_and, and_true, false_and, and_false, reduceCtorEq, decide_true, decide_false, not_true_eq_false, not_false_eq_true, ze_ltT, ze_ltF, ze_leT, ze_leF, ze_eqT, ze_eqF, ze_mlt, ze_ltm, ze_mle, ze_lem, ze_meq, ze_eqm, ze_mm, ze_mltm, ze_inT, ze_inF, ze_inM, ze_cl, ze_fin, ze_decT, ze_decF, Nat.reduceSub, Nat.reduceMul, nI_add, Nat.add_sub_cancel, Nat.add_assoc, Nat.reduceAdd, ze_r8, ze_r24, ze_r40, ze_r400, ze_l8, ze_l16, ze_l24, ze_l40, ze_sub, ze_am1, ze_es, ze_en, ze_i64, ze_m64, ze_64i, ze_64m, ze_LltT, ze_LltF, ze_LleT, ze_LleF, ze_LeqT, ze_LeqF, ze_Lmlt, ze_Lltm, ze_Lmle, ze_Llem, ze_Lmeq, ze_Leqm, ze_Lmm, lN_add, ze_ch, ze_chd, ze_bt, ze_bf, ze_n0, ze_n1, ze_n2, ze_n3, ze_n4, ze_n5, ze_n6, ze_n7, ze_n8, ze_n9, ze_n10, ze_n11, ze_n12, ze_n13, ze_n14, ze_n15, ze_n16, ze_n17, ze_n18, ze_n19, ze_n20, ze_n21, ze_n22, ze_n23, ze_n24, ze_n25, ze_n26, ze_n27, ze_n28, ze_n29, ze_n30, ze_n31, ze_n32, ze_n33, ze_n34, ze_n35, ze_n36, ze_n37, ze_n38, ze_n39, ze_n40, ze_n48, ze_n63, ze_n64, ze_n65, ze_n80, ze_n100, ze_n128, ze_n200, ze_n255, ze_n300, ze_n320, ze_n384, ze_n400, ze_n512, ze_n1023, ze_n1600, ze_n6400, ze_n9600, ze_n32768, ze_n65535, ze_n65536, ze_n802, ze_n8191, ze_L0, ze_L1, ze_L2, ze_L3, ze_L4, ze_L5, ze_L6, ze_L7, ze_L8, ze_L9, ze_L10, ze_L15, ze_L16, ze_L24, ze_L40, ze_L48, ze_L63, ze_L64, ze_L127, ze_L255, ze_L400, ze_L1024, ze_L2047, ze_L65535]
      have w41 : (zx_sI k 50 0 i (nI (q + 1))).1 41 0 t = nI q := by rw [ze_sIF _ _ _ _ (by decide), zd_R_ln RB t ht2, sq]
      have w40o : (zx_sI (zx_sI k 50 0 i (nI (q + 1))) 41 0 t (nI (q + 1))).1 40 0 o = nI (zd_ty A o) := by rw [ze_sIF _ _ _ _ (by decide), ze_sIF _ _ _ _ (by decide), (fr.2.2.1 o ho).1]; exact zd_R_ty HR o ho
      have w40t : (zx_sI (zx_sI k 50 0 i (nI (q + 1))) 41 0 t (nI (q + 1))).1 40 0 t = nI (zd_ty B t) := by rw [ze_sIF _ _ _ _ (by decide), ze_sIF _ _ _ _ (by decide)]; exact zd_R_ty RB t ht2
      have w29 : (zx_sI (zx_sI k 50 0 i (nI (q + 1))) 41 0 t (nI (q + 1))).1 29 = hr.1 29 := by rw [ze_sIF _ _ _ _ (by decide), ze_sIF _ _ _ _ (by decide)]; exact (fr.1 29 (by decide) (by decide)).1
      have w42 : (zx_sI (zx_sI k 50 0 i (nI (q + 1))) 41 0 t (nI (q + 1))).2 42 0 (16 * o + q) = zd_vl A o q := (fr.2.2.2.1 _ (by omega)).trans (zd_R_vl HR o q ho hq (by intro z; rw [z] at so; have := zd_ok_s2 K; omega))
      have tt40 : zd_ty B t < 40 := by omega
      generalize hg2 : zx_sI (zx_sI k 50 0 i (nI (q + 1))) 41 0 t (nI (q + 1)) = k2 at *
      simp (disch := omega) only [zs_Ref_fillList, r32, r48, r49, r50, lo, cqF, w41, hg2, w40o, w40t, w29, zd_R_of HR, w42, e, ↓zd_bnd, ↓zy_bm, if_true, if_false, ite_true, ite_false, ↓reduceIte, Bool.false_eq_true, Bool.true_eq_false, eq_self, true_and, and_true, false_and, and_false, reduceCtorEq, decide_true, decide_false, not_true_eq_false, not_false_eq_true, ze_ltT, ze_ltF, ze_leT, ze_leF, ze_eqT, ze_eqF, ze_mlt, ze_ltm, ze_mle, ze_lem, ze_meq, ze_eqm, ze_mm, ze_mltm, ze_inT, ze_inF, ze_inM, ze_cl, ze_fin, ze_decT, ze_decF, Nat.reduceSub, Nat.reduceMul, nI_add, Nat.add_sub_cancel, Nat.add_assoc, Nat.reduceAdd, ze_r8, ze_r24, ze_r40, ze_r400, ze_l8, ze_l16, ze_l24, ze_l40, ze_sub, ze_am1, ze_es, ze_en, ze_i64, ze_m64, ze_64i, ze_64m, ze_LltT, ze_LltF, ze_LleT, ze_LleF, ze_LeqT, ze_LeqF, ze_Lmlt, ze_Lltm, ze_Lmle, ze_Llem, ze_Lmeq, ze_Leqm, ze_Lmm, lN_add, ze_ch, ze_chd, ze_bt, ze_bf, ze_n0, ze_n1, ze_n2, ze_n3, ze_n4, ze_n5, ze_n6, ze_n7, ze_n8, ze_n9, ze_n10, ze_n11, ze_n12, ze_n13, ze_n14, ze_n15, ze_n16, ze_n17, ze_n18, ze_n19, ze_n20, ze_n21, ze_n22, ze_n23, ze_n24, ze_n25, ze_n26, ze_n27, ze_n28, ze_n29, ze_n30, ze_n31, ze_n32, ze_n33, ze_n34, ze_n35, ze_n36, ze_n37, ze_n38, ze_n39, ze_n40, ze_n48, ze_n63, ze_n64, ze_n65, ze_n80, ze_n100, ze_n128, ze_n200, ze_n255, ze_n300, ze_n320, ze_n384, ze_n400, ze_n512, ze_n1023, ze_n1600, ze_n6400, ze_n9600, ze_n32768, ze_n65535, ze_n65536, ze_n802, ze_n8191, ze_L0, ze_L1, ze_L2, ze_L3, ze_L4, ze_L5, ze_L6, ze_L7, ze_L8, ze_L9, ze_L10, ze_L15, ze_L16, ze_L24, ze_L40, ze_L48, ze_L63, ze_L64, ze_L127, ze_L255, ze_L400, ze_L1024, ze_L2047, ze_L65535]
    have st0 : ∀ j, j < (zm_bump G i).1.1 → j ≠ i → ((zm_bump G i).1.2 j).1 = 16 → ((zm_bump G i).1.2 j).2.2.2 = zd_ln B ((zm_bump G i).1.2 j).2.2.1 := zm_st_bump st
    have hGb : (zm_bump G i).1.2 i = (16, o, t, zd_ln B t + 1) := by rw [zm_bump_i, hG, sq]
    have s5 : zd_srt B (zd_ty B t) = 5 := by rw [sA.1]; exact stt
    have of2 : zd_of B (zd_ty B t) = zd_of A (zd_ty B t) := by rw [sA.2.2.2.1]
    cases z with
    | none =>
      obtain ⟨v, s1, g0, g1, g2⟩ := z1
      obtain ⟨v2, k1, g3, g4, g5⟩ := z2
      have e9 : s1.1 9 0 t = nI q := by rw [(g1.2.1 t ht2).2, zd_C_ln HB0 t ht2, sq]
      obtain ⟨b, s2, g6, g8⟩ := zm_app_any (show t < 400 by omega) (show q < 24 by omega) v e9
      have fx := zd_fC_trans fc0 (zd_fC_mono g1 E.2.1)
      refine ⟨s2, zx_sJ k1 42 0 (16 * t + q) v2, cls _ ?_, ref _ _ g3, Or.inl ⟨?_, ?_, zd_fR_J g4 _ (by omega), g5⟩⟩
      · rw [fl, g0]
        simp (disch := omega) only [g6, ↓zd_bnd, ↓zy_bm, if_true, if_false, ite_true, ite_false, ↓reduceIte, Bool.false_eq_true, Bool.true_eq_false, eq_self, true_and, and_true, false_and, and_false, reduceCtorEq, decide_true, decide_false, not_true_eq_false, not_false_eq_true, ze_ltT, ze_ltF, ze_leT, ze_leF, ze_eqT, ze_eqF, ze_mlt, ze_ltm, ze_mle, ze_lem, ze_meq, ze_eqm, ze_mm, ze_mltm, ze_inT, ze_inF, ze_inM, ze_cl, ze_fin, ze_decT, ze_decF, Nat.reduceSub, Nat.reduceMul, nI_add, Nat.add_sub_cancel, Nat.add_assoc, Nat.reduceAdd, ze_r8, ze_r24, ze_r40, ze_r400, ze_l8, ze_l16, ze_l24, ze_l40, ze_sub, ze_am1, ze_es, ze_en, ze_i64, ze_m64, ze_64i, ze_64m, ze_LltT, ze_LltF, ze_LleT, ze_LleF, ze_LeqT, ze_LeqF, ze_Lmlt, ze_Lltm, ze_Lmle, ze_Llem, ze_Lmeq, ze_Leqm, ze_Lmm, lN_add, ze_ch, ze_chd, ze_bt, ze_bf, ze_n0, ze_n1, ze_n2, ze_n3, ze_n4, ze_n5, ze_n6, ze_n7, ze_n8, ze_n9, ze_n10, ze_n11, ze_n12, ze_n13, ze_n14, ze_n15, ze_n16, ze_n17, ze_n18, ze_n19, ze_n20, ze_n21, ze_n22, ze_n23, ze_n24, ze_n25, ze_n26, ze_n27, ze_n28, ze_n29, ze_n30, ze_n31, ze_n32, ze_n33, ze_n34, ze_n35, ze_n36, ze_n37, ze_n38, ze_n39, ze_n40, ze_n48, ze_n63, ze_n64, ze_n65, ze_n80, ze_n100, ze_n128, ze_n200, ze_n255, ze_n300, ze_n320, ze_n384, ze_n400, ze_n512, ze_n1023, ze_n1600, ze_n6400, ze_n9600, ze_n32768, ze_n65535, ze_n65536, ze_n802, ze_n8191, ze_L0, ze_L1, ze_L2, ze_L3, ze_L4, ze_L5, ze_L6, ze_L7, ze_L8, ze_L9, ze_L10, ze_L15, ze_L16, ze_L24, ze_L40, ze_L48, ze_L63, ze_L64, ze_L127, ze_L255, ze_L400, ze_L1024, ze_L2047, ze_L65535]
      · rcases g8 with rfl | rfl
        · exact fx
        · exact zd_fC_I (zd_fC_J fx _ (by omega)) _ (by omega)
      · rcases g8 with rfl | rfl
        · exact g2
        · rw [ze_sIF _ _ _ _ (by decide)]; exact g2
    | some y =>
      obtain ⟨v, ob, G1⟩ := y
      obtain ⟨s1, g0, g1, g2, g3⟩ := z1
      obtain ⟨k1, g4, g5, g6, g7⟩ := z2
      subst sq
      obtain ⟨f1, B2, f2, f3⟩ := zm_fin_app K E KB rfl HB0 RB0 fc0 fr0 I0 st0 (i := i) hi hGb ht1 ht2 s5 (by omega) (by rw [of2]; exact z3) z4 g1 g2 g3 g5 g6 g7
      refine ⟨_, _, cls _ ?_, ref _ _ g4, Or.inr ⟨B2, G1, f2, by omega⟩⟩
      rw [fl, g0]
      simp (disch := omega) only [f1, ↓zd_bnd, ↓zy_bm, if_true, if_false, ite_true, ite_false, ↓reduceIte, Bool.false_eq_true, Bool.true_eq_false, eq_self, true_and, and_true, false_and, and_false, reduceCtorEq, decide_true, decide_false, not_true_eq_false, not_false_eq_true, ze_ltT, ze_ltF, ze_leT, ze_leF, ze_eqT, ze_eqF, ze_mlt, ze_ltm, ze_mle, ze_lem, ze_meq, ze_eqm, ze_mm, ze_mltm, ze_inT, ze_inF, ze_inM, ze_cl, ze_fin, ze_decT, ze_decF, Nat.reduceSub, Nat.reduceMul, nI_add, Nat.add_sub_cancel, Nat.add_assoc, Nat.reduceAdd, ze_r8, ze_r24, ze_r40, ze_r400, ze_l8, ze_l16, ze_l24, ze_l40, ze_sub, ze_am1, ze_es, ze_en, ze_i64, ze_m64, ze_64i, ze_64m, ze_LltT, ze_LltF, ze_LleT, ze_LleF, ze_LeqT, ze_LeqF, ze_Lmlt, ze_Lltm, ze_Lmle, ze_Llem, ze_Lmeq, ze_Leqm, ze_Lmm, lN_add, ze_ch, ze_chd, ze_bt, ze_bf, ze_n0, ze_n1, ze_n2, ze_n3, ze_n4, ze_n5, ze_n6, ze_n7, ze_n8, ze_n9, ze_n10, ze_n11, ze_n12, ze_n13, ze_n14, ze_n15, ze_n16, ze_n17, ze_n18, ze_n19, ze_n20, ze_n21, ze_n22, ze_n23, ze_n24, ze_n25, ze_n26, ze_n27, ze_n28, ze_n29, ze_n30, ze_n31, ze_n32, ze_n33, ze_n34, ze_n35, ze_n36, ze_n37, ze_n38, ze_n39, ze_n40, ze_n48, ze_n63, ze_n64, ze_n65, ze_n80, ze_n100, ze_n128, ze_n200, ze_n255, ze_n300, ze_n320, ze_n384, ze_n400, ze_n512, ze_n1023, ze_n1600, ze_n6400, ze_n9600, ze_n32768, ze_n65535, ze_n65536, ze_n802, ze_n8191, ze_L0, ze_L1, ze_L2, ze_L3, ze_L4, ze_L5, ze_L6, ze_L7, ze_L8, ze_L9, ze_L10, ze_L15, ze_L16, ze_L24, ze_L40, ze_L48, ze_L63, ze_L64, ze_L127, ze_L255, ze_L400, ze_L1024, ze_L2047, ze_L65535]
/-- a turn -/
theorem zm_turn {A : zd_A} {hc hr : zx_H} (HC : zd_C A hc) (HR : zd_R A hr) (K : zd_ok A) (PQ : ∀ m, m < zd_M A → zp_PM A hc m ∧ zp_dm A m = none) {B : zd_A} {G : zm_G} {s k : zx_H} (L : zm_LS A hc hr B G s k) (h : 0 < G.1.1) : ∃ s' k', (∀ kk x4 x6, x6 < 6800 → zs_Mapper_run_L32_body kk x4 (nI x6) s = kk x4 (nI (x6 + 1)) s') ∧ (∀ kk x3 x4, zs_Ref_map_L96_body kk x3 x4 k = kk x3 x4 k') ∧ zm_out A hc hr B G s' k' := by
  have hM := zd_ok_M K
  have I := L.2.2.2.2.2.2.1
  have KB := L.2.2.1
  have hOB := zd_ok_O KB
  have R := L.2.2.2.2.2.1
  obtain ⟨i, hh⟩ : ∃ i, G.1.1 = i + 1 := ⟨G.1.1 - 1, by omega⟩
  have hi4 : i < 400 := by have := I.1; omega
  rcases hG : G.1.2 i with ⟨m, o, t, q⟩
  have en := I.2.2.2.1 i (by omega)
  rw [hG] at en
  obtain ⟨_, _, _, en⟩ := en
  have r32 := R.2.1
  rw [hh] at r32
  have f37 := R.1
  have r47 := (R.2.2.1 i (by omega)).1
  rw [hG] at r47
  rcases en with en | en
  · have hm : m < zd_M A := en.1
    obtain ⟨s', k', e1, e2, e3⟩ := zm_turnB HC HR K PQ L hh hG hm
    have r47 : k.1 47 0 i = nI m := r47.trans (if_neg (by omega))
    refine ⟨s', k', e1, fun kk x3 x4 => ?_, e3⟩
    simp (disch := omega) only [zs_Ref_map_L96_body, r32, f37, r47, e2, ↓zd_bnd, ↓zy_bm, if_true, if_false, ite_true, ite_false, ↓reduceIte, Bool.false_eq_true, Bool.true_eq_false, eq_self, true_and, and_true, false_and, and_false, reduceCtorEq, decide_true, decide_false, not_true_eq_false, not_false_eq_true, ze_ltT, ze_ltF, ze_leT, ze_leF, ze_eqT, ze_eqF, ze_mlt, ze_ltm, ze_mle, ze_lem, ze_meq, ze_eqm, ze_mm, ze_mltm, ze_inT, ze_inF, ze_inM, ze_cl, ze_fin, ze_decT, ze_decF, Nat.reduceSub, Nat.reduceMul, nI_add, Nat.add_sub_cancel, Nat.add_assoc, Nat.reduceAdd, ze_r8, ze_r24, ze_r40, ze_r400, ze_l8, ze_l16, ze_l24, ze_l40, ze_sub, ze_am1, ze_es, ze_en, ze_i64, ze_m64, ze_64i, ze_64m, ze_LltT, ze_LltF, ze_LleT, ze_LleF, ze_LeqT, ze_LeqF, ze_Lmlt, ze_Lltm, ze_Lmle, ze_Llem, ze_Lmeq, ze_Leqm, ze_Lmm, lN_add, ze_ch, ze_chd, ze_bt, ze_bf, ze_n0, ze_n1, ze_n2, ze_n3, ze_n4, ze_n5, ze_n6, ze_n7, ze_n8, ze_n9, ze_n10, ze_n11, ze_n12, ze_n13, ze_n14, ze_n15, ze_n16, ze_n17, ze_n18, ze_n19, ze_n20, ze_n21, ze_n22, ze_n23, ze_n24, ze_n25, ze_n26, ze_n27, ze_n28, ze_n29, ze_n30, ze_n31, ze_n32, ze_n33, ze_n34, ze_n35, ze_n36, ze_n37, ze_n38, ze_n39, ze_n40, ze_n48, ze_n63, ze_n64, ze_n65, ze_n80, ze_n100, ze_n128, ze_n200, ze_n255, ze_n300, ze_n320, ze_n384, ze_n400, ze_n512, ze_n1023, ze_n1600, ze_n6400, ze_n9600, ze_n32768, ze_n65535, ze_n65536, ze_n802, ze_n8191, ze_L0, ze_L1, ze_L2, ze_L3, ze_L4, ze_L5, ze_L6, ze_L7, ze_L8, ze_L9, ze_L10, ze_L15, ze_L16, ze_L24, ze_L40, ze_L48, ze_L63, ze_L64, ze_L127, ze_L255, ze_L400, ze_L1024, ze_L2047, ze_L65535]
  · have hm : m = 16 := en.1
    subst hm
    obtain ⟨s', k', e1, e2, e3⟩ := zm_turnL HC HR K PQ L hh hG
    have r47 : k.1 47 0 i = -nI 1 := r47
    refine ⟨s', k', e1, fun kk x3 x4 => ?_, e3⟩
    simp (disch := omega) only [zs_Ref_map_L96_body, r32, f37, r47, e2, ↓zd_bnd, ↓zy_bm, if_true, if_false, ite_true, ite_false, ↓reduceIte, Bool.false_eq_true, Bool.true_eq_false, eq_self, true_and, and_true, false_and, and_false, reduceCtorEq, decide_true, decide_false, not_true_eq_false, not_false_eq_true, ze_ltT, ze_ltF, ze_leT, ze_leF, ze_eqT, ze_eqF, ze_mlt, ze_ltm, ze_mle, ze_lem, ze_meq, ze_eqm, ze_mm, ze_mltm, ze_inT, ze_inF, ze_inM, ze_cl, ze_fin, ze_decT, ze_decF, Nat.reduceSub, Nat.reduceMul, nI_add, Nat.add_sub_cancel, Nat.add_assoc, Nat.reduceAdd, ze_r8, ze_r24, ze_r40, ze_r400, ze_l8, ze_l16, ze_l24, ze_l40, ze_sub, ze_am1, ze_es, ze_en, ze_i64, ze_m64, ze_64i, ze_64m, ze_LltT, ze_LltF, ze_LleT, ze_LleF, ze_LeqT, ze_LeqF, ze_Lmlt, ze_Lltm, ze_Lmle, ze_Llem, ze_Lmeq, ze_Leqm, ze_Lmm, lN_add, ze_ch, ze_chd, ze_bt, ze_bf, ze_n0, ze_n1, ze_n2, ze_n3, ze_n4, ze_n5, ze_n6, ze_n7, ze_n8, ze_n9, ze_n10, ze_n11, ze_n12, ze_n13, ze_n14, ze_n15, ze_n16, ze_n17, ze_n18, ze_n19, ze_n20, ze_n21, ze_n22, ze_n23, ze_n24, ze_n25, ze_n26, ze_n27, ze_n28, ze_n29, ze_n30, ze_n31, ze_n32, ze_n33, ze_n34, ze_n35, ze_n36, ze_n37, ze_n38, ze_n39, ze_n40, ze_n48, ze_n63, ze_n64, ze_n65, ze_n80, ze_n100, ze_n128, ze_n200, ze_n255, ze_n300, ze_n320, ze_n384, ze_n400, ze_n512, ze_n1023, ze_n1600, ze_n6400, ze_n9600, ze_n32768, ze_n65535, ze_n65536, ze_n802, ze_n8191, ze_L0, ze_L1, ze_L2, ze_L3, ze_L4, ze_L5, ze_L6, ze_L7, ze_L8, ze_L9, ze_L10, ze_L15, ze_L16, ze_L24, ze_L40, ze_L48, ze_L63, ze_L64, ze_L127, ze_L255, ze_L400, ze_L1024, ze_L2047, ze_L65535]
