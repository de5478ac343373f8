/-! a turn at a bean -/
theorem zm_n6800 : (6800 : Int32) = nI 6800 := rfl
def zm_out (A : zd_A) (hc hr : zx_H) (B : zd_A) (G : zm_G) (s k : zx_H) : Prop := (zd_fC (zd_O A) hc s ∧ s.1 23 0 2 = nI 1 ∧ zd_fR (zd_O A) hr k ∧ k.1 24 0 37 = nI 1) ∨ ∃ B2 G2, zm_LS A hc hr B2 G2 s k ∧ zm_Ph B2 G2 + 1 ≤ zm_Ph B G
theorem zm_st_bump {B : zd_A} {G : zm_G} (st : ∀ j, j < G.1.1 → (G.1.2 j).1 = 16 → (G.1.2 j).2.2.2 = zd_ln B (G.1.2 j).2.2.1) {i : Nat} : ∀ j, j < (zm_bump G i).1.1 → j ≠ i → ((zm_bump G i).1.2 j).1 = 16 → ((zm_bump G i).1.2 j).2.2.2 = zd_ln B ((zm_bump G i).1.2 j).2.2.1 := by
  intro j hj hne
  rw [zm_bump_n G hne]
  exact st j hj
/-- what is on top is done -/
theorem zm_out_pop {A B : zd_A} {hc hr : zx_H} {G : zm_G} {s k : zx_H} (L : zm_LS A hc hr B G s k) (h : 0 < G.1.1) (hq : (G.1.2 (G.1.1 - 1)).2.2.2 ≤ 16) (x : Int32) : zm_out A hc hr B G (zx_sI (zx_sI s 21 0 (G.1.1 - 1) x) 17 0 10 (nI (G.1.1 - 1))) (zx_sI k 24 0 32 (nI (G.1.1 - 1))) := by
  obtain ⟨HB, RB, KB, E, P, R, I, fc, fr, st⟩ := L
  refine Or.inr ⟨B, zm_pop G, ⟨?_, ?_, KB, E, zm_C_pop P h x, zm_R_pop R h, zm_inv_pop I, ?_, ?_, ?_⟩, ?_⟩
  · refine zm_C_old HB KB (zd_fC_I (zd_fC_I (zd_fC_refl _ s) _ (by omega)) _ (by omega)) ?_
    simp (disch := omega) only [ze_gIs, ze_gIn, ze_gJs, ze_gJn, zd_gI2, zd_gJ1, ze_sII]; exact zd_C_O HB
  · refine zm_R_old RB KB (zd_fR_I (zd_fR_refl _ k) _ (Or.inl ⟨rfl, by unfold zd_st; decide⟩)) ?_
    simp (disch := omega) only [ze_gIs, ze_gIn, ze_gJs, ze_gJn, zd_gI2, zd_gJ1, ze_sII]; exact zd_R_O RB
  · exact zd_fC_I (zd_fC_I fc _ (by omega)) _ (by omega)
  · exact zd_fR_I fr _ (Or.inl ⟨rfl, by unfold zd_st; decide⟩)
  · intro j hj
    have hj : j < G.1.1 - 1 := hj
    exact st j (by omega)
  · have := zm_ps_pop G h hq
    show 17 * (400 - zd_O B) + _ + 1 ≤ 17 * (400 - zd_O B) + _
    omega
theorem zm_turnB {A : zd_A} {hc hr : zx_H} (HC : zd_C A hc) (HR : zd_R A hr) (K : zd_ok A) (PQ : ∀ m, m < zd_M A → zp_PM A hc m ∧ zp_dm A m = none) {B : zd_A} {G : zm_G} {s k : zx_H} (L : zm_LS A hc hr B G s k) {i m o t q : Nat} (hh : G.1.1 = i + 1) (hG : G.1.2 i = (m, o, t, q)) (hm : m < zd_M A) : ∃ s' k', (∀ kk x4 x6, x6 < 6800 → zs_Mapper_run_L32_body kk x4 (nI x6) s = kk x4 (nI (x6 + 1)) s') ∧ zs_Ref_fillBean k = some k' ∧ zm_out A hc hr B G s' k' := by
  have L0 := L
  obtain ⟨HB, RB, KB, E, P, R, I, fc, fr, st⟩ := L
  have hT := zd_ok_T K
  have hM := zd_ok_M K
  have hO := zd_ok_O K
  have hOB := zd_ok_O KB
  have hm16 : m < 16 := by omega
  have hi : i < G.1.1 := by omega
  have hi4 : i < 400 := by have := I.1; omega
  have en := I.2.2.2.1 i hi
  rw [hG] at en
  obtain ⟨ho, ht1, ht2, en⟩ := en
  have ho : o < zd_O A := ho
  have ht1 : zd_O A ≤ t := ht1
  have ht2 : t < zd_O B := ht2
  obtain ⟨_, h4, hto, htt, hq, hemp⟩ := en.resolve_right (fun z => by have : m = 16 := z.1; omega)
  have h4 : zd_srt A (zd_mt A m) = 4 := h4
  have hto : zd_ty A o = zd_mf A m := hto
  have htt : zd_ty B t = zd_mt A m := htt
  have hq : q ≤ zd_sz A (zd_mt A m) := hq
  have hemp : ∀ x, q ≤ x → x < zd_sz A (zd_mt A m) → zd_vl B t x = zg_emp (zd_pt A (zd_mt A m) x) := hemp
  clear en
  have hme := zd_ok_m K m hm
  have hz := zd_ok_sz K (zd_mt A m) (by omega)
  have sA := zm_st E
  have l4 := zd_ok_l4 KB t ht2 (by rw [sA.1, htt]; exact h4)
  have lnt : zd_ln B t = zd_sz A (zd_mt A m) := by rw [l4.1, sA.2.1, htt]
  obtain ⟨p22, p19, p20, p21⟩ := P.2.2.1 i hi
  obtain ⟨r47, r48, r49, r50⟩ := R.2.2.1 i hi
  rw [hG] at p22 p19 p20 p21 r47 r48 r49 r50
  have e16 : zm_e16 m = nI m := if_neg (by omega)
  have p22 : s.1 22 0 i = nI m := p22.trans e16
  have r47 : k.1 47 0 i = nI m := r47.trans e16
  have p19 : s.1 19 0 i = nI o := p19
  have p20 : s.1 20 0 i = nI t := p20
  have p21 : s.1 21 0 i = nI q := p21
  have r48 : k.1 48 0 i = nI o := r48
  have r49 : k.1 49 0 i = nI t := r49
  have r50 : k.1 50 0 i = nI q := r50
  have p10 := P.2.1
  have f23 := P.1
  have r32 := R.2.1
  have f37 := R.1
  rw [hh] at p10 r32
  have Xs : zm_C A hc s (zd_O B) := ⟨fc, zd_C_O HB, E.2.1, hOB⟩
  have Yk : zm_R A hr k (zd_O B) := ⟨fr, zd_R_O RB, E.2.1, hOB⟩
  have c31 := (Yk.1.1 31 (by decide) (by decide)).1
  have c26 := (Yk.1.1 26 (by decide) (by decide)).1
  have c27 := (Yk.1.1 27 (by decide) (by decide)).1
  have c28 := (Yk.1.1 28 (by decide) (by decide)).1
  have ind1 : (nI m = -nI 1) = False := by simp (disch := omega) only [↓zd_bnd, ↓zy_bm, if_true, if_false, ite_true, ite_false, ↓reduceIte, Bool.false_eq_true, Bool.true_eq_false, eq_self, true_and, and_true, false_and, and_false, reduceCtorEq, decide_true, decide_false, not_true_eq_false, not_false_eq_true, ze_ltT, ze_ltF, ze_leT, ze_leF, ze_eqT, ze_eqF, ze_mlt, ze_ltm, ze_mle, ze_lem, ze_meq, ze_eqm, ze_mm, ze_mltm, ze_inT, ze_inF, ze_inM, ze_cl, ze_fin, ze_decT, ze_decF, Nat.reduceSub, Nat.reduceMul, nI_add, Nat.add_sub_cancel, Nat.add_assoc, Nat.reduceAdd, ze_r8, ze_r24, ze_r40, ze_r400, ze_l8, ze_l16, ze_l24, ze_l40, ze_sub, ze_am1, ze_es, ze_en, ze_i64, ze_m64, ze_64i, ze_64m, ze_LltT, ze_LltF, ze_LleT, ze_LleF, ze_LeqT, ze_LeqF, ze_Lmlt, ze_Lltm, ze_Lmle, ze_Llem, ze_Lmeq, ze_Leqm, ze_Lmm, lN_add, ze_ch, ze_chd, ze_bt, ze_bf, ze_n0, ze_n1, ze_n2, ze_n3, ze_n4, ze_n5, ze_n6, ze_n7, ze_n8, ze_n9, ze_n10, ze_n11, ze_n12, ze_n13, ze_n14, ze_n15, ze_n16, ze_n17, ze_n18, ze_n19, ze_n20, ze_n21, ze_n22, ze_n23, ze_n24, ze_n25, ze_n26, ze_n27, ze_n28, ze_n29, ze_n30, ze_n31, ze_n32, ze_n33, ze_n34, ze_n35, ze_n36, ze_n37, ze_n38, ze_n39, ze_n40, ze_n48, ze_n63, ze_n64, ze_n65, ze_n80, ze_n100, ze_n128, ze_n200, ze_n255, ze_n300, ze_n320, ze_n384, ze_n400, ze_n512, ze_n1023, ze_n1600, ze_n6400, ze_n9600, ze_n32768, ze_n65535, ze_n65536, ze_n802, ze_n8191, ze_L0, ze_L1, ze_L2, ze_L3, ze_L4, ze_L5, ze_L6, ze_L7, ze_L8, ze_L9, ze_L10, ze_L15, ze_L16, ze_L24, ze_L40, ze_L48, ze_L63, ze_L64, ze_L127, ze_L255, ze_L400, ze_L1024, ze_L2047, ze_L65535]
  by_cases cq : q = zd_sz A (zd_mt A m)
  · refine ⟨zx_sI (zx_sI s 21 0 i (nI (q + 1))) 17 0 10 (nI i), zx_sI k 24 0 32 (nI i), ?_, ?_, ?_⟩
    · intro kk x4 x6 hx
      have HB0 : zd_C B (zx_sI s 21 0 i (nI (q + 1))) := zm_C_old HB KB (zd_fC_I (zd_fC_refl _ s) _ (by omega)) (by simp (disch := omega) only [ze_gIs, ze_gIn, ze_gJs, ze_gJn, zd_gI2, zd_gJ1, ze_sII]; exact zd_C_O HB)
      have XB0 : zm_C B (zx_sI s 21 0 i (nI (q + 1))) (zx_sI s 21 0 i (nI (q + 1))) (zd_O B) := ⟨zd_fC_refl _ _, zd_C_O HB0, Nat.le_refl _, hOB⟩
      have len := zm_C_length HB0 KB XB0 ht2
      rw [lnt, ← cq] at len
      simp (disch := omega) only [zs_Mapper_run_L32_body, zm_n6800, zs_Mapper_run_J145, zs_Mapper_run_J227, p10, f23, p22, p19, p20, p21, len, ↓zd_bnd, ↓zy_bm, if_true, if_false, ite_true, ite_false, ↓reduceIte, Bool.false_eq_true, Bool.true_eq_false, eq_self, true_and, and_true, false_and, and_false, reduceCtorEq, decide_true, decide_false, not_true_eq_false, not_false_eq_true, ze_ltT, ze_ltF, ze_leT, ze_leF, ze_eqT, ze_eqF, ze_mlt, ze_ltm, ze_mle, ze_lem, ze_meq, ze_eqm, ze_mm, ze_mltm, ze_inT, ze_inF, ze_inM, ze_cl, ze_fin, ze_decT, ze_decF, Nat.reduceSub, Nat.reduceMul, nI_add, Nat.add_sub_cancel, Nat.add_assoc, Nat.reduceAdd, ze_r8, ze_r24, ze_r40, ze_r400, ze_l8, ze_l16, ze_l24, ze_l40, ze_sub, ze_am1, ze_es, ze_en, ze_i64, ze_m64, ze_64i, ze_64m, ze_LltT, ze_LltF, ze_LleT, ze_LleF, ze_LeqT, ze_LeqF, ze_Lmlt, ze_Lltm, ze_Lmle, ze_Llem, ze_Lmeq, ze_Leqm, ze_Lmm, lN_add, ze_ch, ze_chd, ze_bt, ze_bf, ze_n0, ze_n1, ze_n2, ze_n3, ze_n4, ze_n5, ze_n6, ze_n7, ze_n8, ze_n9, ze_n10, ze_n11, ze_n12, ze_n13, ze_n14, ze_n15, ze_n16, ze_n17, ze_n18, ze_n19, ze_n20, ze_n21, ze_n22, ze_n23, ze_n24, ze_n25, ze_n26, ze_n27, ze_n28, ze_n29, ze_n30, ze_n31, ze_n32, ze_n33, ze_n34, ze_n35, ze_n36, ze_n37, ze_n38, ze_n39, ze_n40, ze_n48, ze_n63, ze_n64, ze_n65, ze_n80, ze_n100, ze_n128, ze_n200, ze_n255, ze_n300, ze_n320, ze_n384, ze_n400, ze_n512, ze_n1023, ze_n1600, ze_n6400, ze_n9600, ze_n32768, ze_n65535, ze_n65536, ze_n802, ze_n8191, ze_L0, ze_L1, ze_L2, ze_L3, ze_L4, ze_L5, ze_L6, ze_L7, ze_L8, ze_L9, ze_L10, ze_L15, ze_L16, ze_L24, ze_L40, ze_L48, ze_L63, ze_L64, ze_L127, ze_L255, ze_L400, ze_L1024, ze_L2047, ze_L65535, ze_gIs, ze_gIn, ze_gJs, ze_gJn, zd_gI2, zd_gJ1, ze_sII]
    · simp (disch := omega) only [zs_Ref_fillBean, r32, r47, r48, r49, r50, c31, c26, zd_R_mt HR, zd_R_sz HR, cq, ↓zd_bnd, ↓zy_bm, if_true, if_false, ite_true, ite_false, ↓reduceIte, Bool.false_eq_true, Bool.true_eq_false, eq_self, true_and, and_true, false_and, and_false, reduceCtorEq, decide_true, decide_false, not_true_eq_false, not_false_eq_true, ze_ltT, ze_ltF, ze_leT, ze_leF, ze_eqT, ze_eqF, ze_mlt, ze_ltm, ze_mle, ze_lem, ze_meq, ze_eqm, ze_mm, ze_mltm, ze_inT, ze_inF, ze_inM, ze_cl, ze_fin, ze_decT, ze_decF, Nat.reduceSub, Nat.reduceMul, nI_add, Nat.add_sub_cancel, Nat.add_assoc, Nat.reduceAdd, ze_r8, ze_r24, ze_r40, ze_r400, ze_l8, ze_l16, ze_l24, ze_l40, ze_sub, ze_am1, ze_es, ze_en, ze_i64, ze_m64, ze_64i, ze_64m, ze_LltT, ze_LltF, ze_LleT, ze_LleF, ze_LeqT, ze_LeqF, ze_Lmlt, ze_Lltm, ze_Lmle, ze_Llem, ze_Lmeq, ze_Leqm, ze_Lmm, lN_add, ze_ch, ze_chd, ze_bt, ze_bf, ze_n0, ze_n1, ze_n2, ze_n3, ze_n4, ze_n5, ze_n6, ze_n7, ze_n8, ze_n9, ze_n10, ze_n11, ze_n12, ze_n13, ze_n14, ze_n15, ze_n16, ze_n17, ze_n18, ze_n19, ze_n20, ze_n21, ze_n22, ze_n23, ze_n24, ze_n25, ze_n26, ze_n27, ze_n28, ze_n29, ze_n30, ze_n31, ze_n32, ze_n33, ze_n34, ze_n35, ze_n36, ze_n37, ze_n38, ze_n39, ze_n40, ze_n48, ze_n63, ze_n64, ze_n65, ze_n80, ze_n100, ze_n128, ze_n200, ze_n255, ze_n300, ze_n320, ze_n384, ze_n400, ze_n512, ze_n1023, ze_n1600, ze_n6400, ze_n9600, ze_n32768, ze_n65535, ze_n65536, ze_n802, ze_n8191, ze_L0, ze_L1, ze_L2, ze_L3, ze_L4, ze_L5, ze_L6, ze_L7, ze_L8, ze_L9, ze_L10, ze_L15, ze_L16, ze_L24, ze_L40, ze_L48, ze_L63, ze_L64, ze_L127, ze_L255, ze_L400, ze_L1024, ze_L2047, ze_L65535]
    · have := zm_out_pop L0 (by omega) (by rw [show G.1.1 - 1 = i by omega, hG]; show q ≤ 16; omega) (nI (q + 1))
      rw [show G.1.1 - 1 = i by omega] at this
      exact this
  · have hq : q < zd_sz A (zd_mt A m) := by omega
    have hx : zp_n A m q < 64 := zd_ok_nm K _ _ hme.2.1 hq
    have hy : zp_y A m q < zd_T A := zd_ok_pt K _ _ hme.2.1 hq h4
    -- the heaps, with the next place noted
    have HB0 : zd_C B (zx_sI s 21 0 i (nI (q + 1))) := zm_C_old HB KB (zd_fC_I (zd_fC_refl _ s) _ (by omega)) (by simp (disch := omega) only [ze_gIs, ze_gIn, ze_gJs, ze_gJn, zd_gI2, zd_gJ1, ze_sII]; exact zd_C_O HB)
    have RB0 : zd_R B (zx_sI k 50 0 i (nI (q + 1))) := zm_R_old RB KB (zd_fR_I (zd_fR_refl _ k) _ (by omega)) (by simp (disch := omega) only [ze_gIs, ze_gIn, ze_gJs, ze_gJn, zd_gI2, zd_gJ1, ze_sII]; exact zd_R_O RB)
    have fc0 : zd_fC (zd_O A) hc (zx_sI s 21 0 i (nI (q + 1))) := zd_fC_I fc _ (by omega)
    have fr0 : zd_fR (zd_O A) hr (zx_sI k 50 0 i (nI (q + 1))) := zd_fR_I fr _ (by omega)
    have P0 := zm_C_bump P i
    have R0 := zm_R_bump R i
    rw [hG] at P0 R0
    have P0 : zm_CP (zm_bump G i) (zx_sI s 21 0 i (nI (q + 1))) := P0
    have R0 : zm_RP (zm_bump G i) (zx_sI k 50 0 i (nI (q + 1))) := R0
    have I0 : zm_inv A hc B (zm_bump G i) := zm_inv_bump I (by rw [hG]; exact fun _ => hq) (by rw [hG]; intro z; have : m = 16 := z; omega)
    have XB0 : zm_C B (zx_sI s 21 0 i (nI (q + 1))) (zx_sI s 21 0 i (nI (q + 1))) (zd_O B) := ⟨zd_fC_refl _ _, zd_C_O HB0, Nat.le_refl _, hOB⟩
    have X0 : zm_C A hc (zx_sI s 21 0 i (nI (q + 1))) (zd_O B) := ⟨fc0, zd_C_O HB0, E.2.1, hOB⟩
    have Y0 : zm_R A hr (zx_sI k 50 0 i (nI (q + 1))) (zd_O B) := ⟨fr0, zd_R_O RB0, E.2.1, hOB⟩
    have len := zm_C_length HB0 KB XB0 ht2
    rw [lnt] at len
    have leno := zm_C_length HC K X0 ho
    have lno := zf_ln K ho
    have hs0 : ∀ F, F ≠ 21 → (zx_sI s 21 0 i (nI (q + 1))).1 F = s.1 F := fun F h => ze_sIF _ _ _ _ h
    have q22 : (zx_sI s 21 0 i (nI (q + 1))).1 22 0 i = nI m := by rw [hs0 22 (by decide)]; exact p22
    have q19 : (zx_sI s 21 0 i (nI (q + 1))).1 19 0 i = nI o := by rw [hs0 19 (by decide)]; exact p19
    have q20 : (zx_sI s 21 0 i (nI (q + 1))).1 20 0 i = nI t := by rw [hs0 20 (by decide)]; exact p20
    have phB : zm_Ph B (zm_bump G i) + 1 ≤ zm_Ph B G := by
      have := zm_ps_bump G (by omega) (by rw [show G.1.1 - 1 = i by omega, hG]; show q ≤ 16; omega)
      rw [show G.1.1 - 1 = i by omega] at this
      show 17 * (400 - zd_O B) + _ + 1 ≤ 17 * (400 - zd_O B) + _
      omega
    have cls : ∀ s', zs_Mapper_fillProperty ⟨m, hm16⟩ (nI o) (nI t) (nI q) (zx_sI s 21 0 i (nI (q + 1))) = some s' → ∀ kk x4 x6, x6 < 6800 → zs_Mapper_run_L32_body kk x4 (nI x6) s = kk x4 (nI (x6 + 1)) s' := by
      intro s' e kk x4 x6 hx
      generalize hg : zx_sI s 21 0 i (nI (q + 1)) = s0 at *
      by_cases cl : q < zd_ln A o
      · simp (disch := omega) only [zs_Mapper_run_L32_body, zm_n6800, zs_Mapper_run_J115, zs_Mapper_run_J158, zs_Mapper_run_J227, p10, f23, p21, hg, q22, q19, q20, len, leno, e, ind1, ↓zd_bnd, ↓zy_bm, if_true, if_false, ite_true, ite_false, ↓reduceIte, Bool.false_eq_true, Bool.true_eq_false, eq_self, true_and, and_true, false_and, and_false, reduceCtorEq, decide_true, decide_false, not_true_eq_false, not_false_eq_true, ze_ltT, ze_ltF, ze_leT, ze_leF, ze_eqT, ze_eqF, ze_mlt, ze_ltm, ze_mle, ze_lem, ze_meq, ze_eqm, ze_mm, ze_mltm, ze_inT, ze_inF, ze_inM, ze_cl, ze_fin, ze_decT, ze_decF, Nat.reduceSub, Nat.reduceMul, nI_add, Nat.add_sub_cancel, Nat.add_assoc, Nat.reduceAdd, ze_r8, ze_r24, ze_r40, ze_r400, ze_l8, ze_l16, ze_l24, ze_l40, ze_sub, ze_am1, ze_es, ze_en, ze_i64, ze_m64, ze_64i, ze_64m, ze_LltT, ze_LltF, ze_LleT, ze_LleF, ze_LeqT, ze_LeqF, ze_Lmlt, ze_Lltm, ze_Lmle, ze_Llem, ze_Lmeq, ze_Leqm, ze_Lmm, lN_add, ze_ch, ze_chd, ze_bt, ze_bf, ze_n0, ze_n1, ze_n2, ze_n3, ze_n4, ze_n5, ze_n6, ze_n7, ze_n8, ze_n9, ze_n10, ze_n11, ze_n12, ze_n13, ze_n14, ze_n15, ze_n16, ze_n17, ze_n18, ze_n19, ze_n20, ze_n21, ze_n22, ze_n23, ze_n24, ze_n25, ze_n26, ze_n27, ze_n28, ze_n29, ze_n30, ze_n31, ze_n32, ze_n33, ze_n34, ze_n35, ze_n36, ze_n37, ze_n38, ze_n39, ze_n40, ze_n48, ze_n63, ze_n64, ze_n65, ze_n80, ze_n100, ze_n128, ze_n200, ze_n255, ze_n300, ze_n320, ze_n384, ze_n400, ze_n512, ze_n1023, ze_n1600, ze_n6400, ze_n9600, ze_n32768, ze_n65535, ze_n65536, ze_n802, ze_n8191, ze_L0, ze_L1, ze_L2, ze_L3, ze_L4, ze_L5, ze_L6, ze_L7, ze_L8, ze_L9, ze_L10, ze_L15, ze_L16, ze_L24, ze_L40, ze_L48, ze_L63, ze_L64, ze_L127, ze_L255, ze_L400, ze_L1024, ze_L2047, ze_L65535]
      · simp (disch := omega) only [zs_Mapper_run_L32_body, zm_n6800, zs_Mapper_run_J115, zs_Mapper_run_J158, zs_Mapper_run_J227, p10, f23, p21, hg, q22, q19, q20, len, leno, e, ind1, ↓zd_bnd, ↓zy_bm, if_true, if_false, ite_true, ite_false, ↓reduceIte, Bool.false_eq_true, Bool.true_eq_false, eq_self, true_and, and_true, false_and, and_false, reduceCtorEq, decide_true, decide_false, not_true_eq_false, not_false_eq_true, ze_ltT, ze_ltF, ze_leT, ze_leF, ze_eqT, ze_eqF, ze_mlt, ze_ltm, ze_mle, ze_lem, ze_meq, ze_eqm, ze_mm, ze_mltm, ze_inT, ze_inF, ze_inM, ze_cl, ze_fin, ze_decT, ze_decF, Nat.reduceSub, Nat.reduceMul, nI_add, Nat.add_sub_cancel, Nat.add_assoc, Nat.reduceAdd, ze_r8, ze_r24, ze_r40, ze_r400, ze_l8, ze_l16, ze_l24, ze_l40, ze_sub, ze_am1, ze_es, ze_en, ze_i64, ze_m64, ze_64i, ze_64m, ze_LltT, ze_LltF, ze_LleT, ze_LleF, ze_LeqT, ze_LeqF, ze_Lmlt, ze_Lltm, ze_Lmle, ze_Llem, ze_Lmeq, ze_Leqm, ze_Lmm, lN_add, ze_ch, ze_chd, ze_bt, ze_bf, ze_n0, ze_n1, ze_n2, ze_n3, ze_n4, ze_n5, ze_n6, ze_n7, ze_n8, ze_n9, ze_n10, ze_n11, ze_n12, ze_n13, ze_n14, ze_n15, ze_n16, ze_n17, ze_n18, ze_n19, ze_n20, ze_n21, ze_n22, ze_n23, ze_n24, ze_n25, ze_n26, ze_n27, ze_n28, ze_n29, ze_n30, ze_n31, ze_n32, ze_n33, ze_n34, ze_n35, ze_n36, ze_n37, ze_n38, ze_n39, ze_n40, ze_n48, ze_n63, ze_n64, ze_n65, ze_n80, ze_n100, ze_n128, ze_n200, ze_n255, ze_n300, ze_n320, ze_n384, ze_n400, ze_n512, ze_n1023, ze_n1600, ze_n6400, ze_n9600, ze_n32768, ze_n65535, ze_n65536, ze_n802, ze_n8191, ze_L0, ze_L1, ze_L2, ze_L3, ze_L4, ze_L5, ze_L6, ze_L7, ze_L8, ze_L9, ze_L10, ze_L15, ze_L16, ze_L24, ze_L40, ze_L48, ze_L63, ze_L64, ze_L127, ze_L255, ze_L400, ze_L1024, ze_L2047, ze_L65535]
    have fr2 := zm_R_first HR K Y0 hm (k := 2) (by omega) (nI (zp_n A m q))
    have d31 := (Y0.1.1 31 (by decide) (by decide)).1
    have d26 := (Y0.1.1 26 (by decide) (by decide)).1
    have d27 := (Y0.1.1 27 (by decide) (by decide)).1
    have d28 := (Y0.1.1 28 (by decide) (by decide)).1
    have n27 := zd_R_nm HR (zd_mt A m) q hme.2.1 hq
    have n28 := zd_R_pt HR (zd_mt A m) q hme.2.1 hq h4
    have w48 : (zx_sI k 50 0 i (nI (q + 1))).1 48 0 i = nI o := by rw [ze_sIF _ _ _ _ (by decide)]; exact r48
    cases e2 : zp_fr A m 2 (nI (zp_n A m q)) with
    | some r =>
      have hr : r < zd_rc A m := by unfold zp_fr at e2; exact (zd_first_some.mp e2).1
      have hrc := zd_ok_rc K m hm16
      rw [e2] at fr2
      have fr2 : zs_Ref_firstRule (nI m) (nI 2) (nI (zd_nm A (zd_mt A m) q)) (zx_sI k 50 0 i (nI (q + 1))) = some (nI (24 * m + r)) := fr2
      have row := (((PQ m hm).1.2 q (by unfold zp_nm; rw [if_pos h4]; exact hq)).1 h4).1.1 (by rw [e2]; rfl)
      refine ⟨zx_sI s 21 0 i (nI (q + 1)), zx_sI k 50 0 i (nI (q + 1)), cls _ ?_, ?_, Or.inr ⟨B, zm_bump G i, ⟨HB0, RB0, KB, E, P0, R0, I0, fc0, fr0, ?_⟩, phB⟩⟩
      · have c54 := (X0.1.1 54 (by decide) (by decide)).1
        have c60 := (X0.1.1 60 (by decide) (by decide)).1
        rw [← c60] at row
        have ta : zs_Types_typeAt (nI (zd_mt A m)) (nI q) (zx_sI s 21 0 i (nI (q + 1))) = some (nI (zp_y A m q)) := zm_C_typeAt HC K X0 hme.2.1 hq h4
        have pp := zp_ppe (m := m) (p := q) hm16 (by omega)
        generalize zx_sI s 21 0 i (nI (q + 1)) = s0 at *
        simp (disch := omega) only [zs_Mapper_fillProperty, zs_Mapper_fillProperty_J74, c54, zd_C_mt HC, ta, pp, row, ↓zd_bnd, ↓zy_bm, if_true, if_false, ite_true, ite_false, ↓reduceIte, Bool.false_eq_true, Bool.true_eq_false, eq_self, true_and, and_true, false_and, and_false, reduceCtorEq, decide_true, decide_false, not_true_eq_false, not_false_eq_true, ze_ltT, ze_ltF, ze_leT, ze_leF, ze_eqT, ze_eqF, ze_mlt, ze_ltm, ze_mle, ze_lem, ze_meq, ze_eqm, ze_mm, ze_mltm, ze_inT, ze_inF, ze_inM, ze_cl, ze_fin, ze_decT, ze_decF, Nat.reduceSub, Nat.reduceMul, nI_add, Nat.add_sub_cancel, Nat.add_assoc, Nat.reduceAdd, ze_r8, ze_r24, ze_r40, ze_r400, ze_l8, ze_l16, ze_l24, ze_l40, ze_sub, ze_am1, ze_es, ze_en, ze_i64, ze_m64, ze_64i, ze_64m, ze_LltT, ze_LltF, ze_LleT, ze_LleF, ze_LeqT, ze_LeqF, ze_Lmlt, ze_Lltm, ze_Lmle, ze_Llem, ze_Lmeq, ze_Leqm, ze_Lmm, lN_add, ze_ch, ze_chd, ze_bt, ze_bf, ze_n0, ze_n1, ze_n2, ze_n3, ze_n4, ze_n5, ze_n6, ze_n7, ze_n8, ze_n9, ze_n10, ze_n11, ze_n12, ze_n13, ze_n14, ze_n15, ze_n16, ze_n17, ze_n18, ze_n19, ze_n20, ze_n21, ze_n22, ze_n23, ze_n24, ze_n25, ze_n26, ze_n27, ze_n28, ze_n29, ze_n30, ze_n31, ze_n32, ze_n33, ze_n34, ze_n35, ze_n36, ze_n37, ze_n38, ze_n39, ze_n40, ze_n48, ze_n63, ze_n64, ze_n65, ze_n80, ze_n100, ze_n128, ze_n200, ze_n255, ze_n300, ze_n320, ze_n384, ze_n400, ze_n512, ze_n1023, ze_n1600, ze_n6400, ze_n9600, ze_n32768, ze_n65535, ze_n65536, ze_n802, ze_n8191, ze_L0, ze_L1, ze_L2, ze_L3, ze_L4, ze_L5, ze_L6, ze_L7, ze_L8, ze_L9, ze_L10, ze_L15, ze_L16, ze_L24, ze_L40, ze_L48, ze_L63, ze_L64, ze_L127, ze_L255, ze_L400, ze_L1024, ze_L2047, ze_L65535]
      · rw [← c27] at n27
        have n27b : (zx_sI k 50 0 i (nI (q + 1))).1 27 0 (8 * zd_mt A m + q) = nI (zd_nm A (zd_mt A m) q) := by rw [ze_sIF _ _ _ _ (by decide)]; exact n27
        have cqF : (nI q = nI (zd_sz A (zd_mt A m))) = False := by simp (disch := omega) only [↓zd_bnd, ↓zy_bm, if_true, if_false, ite_true, ite_false, ↓reduceIte, Bool.false_eq_true, Bool.true_eq_false, eq_self, true_and, and_true, false_and, and_false, reduceCtorEq, decide_true, decide_false, not_true_eq_false, not_false_eq_true, ze_ltT, ze_ltF, ze_leT, ze_leF, ze_eqT, ze_eqF, ze_mlt, ze_ltm, ze_mle, ze_lem, ze_meq, ze_eqm, ze_mm, ze_mltm, ze_inT, ze_inF, ze_inM, ze_cl, ze_fin, ze_decT, ze_decF, Nat.reduceSub, Nat.reduceMul, nI_add, Nat.add_sub_cancel, Nat.add_assoc, Nat.reduceAdd, ze_r8, ze_r24, ze_r40, ze_r400, ze_l8, ze_l16, ze_l24, ze_l40, ze_sub, ze_am1, ze_es, ze_en, ze_i64, ze_m64, ze_64i, ze_64m, ze_LltT, ze_LltF, ze_LleT, ze_LleF, ze_LeqT, ze_LeqF, ze_Lmlt, ze_Lltm, ze_Lmle, ze_Llem, ze_Lmeq, ze_Leqm, ze_Lmm, lN_add, ze_ch, ze_chd, ze_bt, ze_bf, ze_n0, ze_n1, ze_n2, ze_n3, ze_n4, ze_n5, ze_n6, ze_n7, ze_n8, ze_n9, ze_n10, ze_n11, ze_n12, ze_n13, ze_n14, ze_n15, ze_n16, ze_n17, ze_n18, ze_n19, ze_n20, ze_n21, ze_n22, ze_n23, ze_n24, ze_n25, ze_n26, ze_n27, ze_n28, ze_n29, ze_n30, ze_n31, ze_n32, ze_n33, ze_n34, ze_n35, ze_n36, ze_n37, ze_n38, ze_n39, ze_n40, ze_n48, ze_n63, ze_n64, ze_n65, ze_n80, ze_n100, ze_n128, ze_n200, ze_n255, ze_n300, ze_n320, ze_n384, ze_n400, ze_n512, ze_n1023, ze_n1600, ze_n6400, ze_n9600, ze_n32768, ze_n65535, ze_n65536, ze_n802, ze_n8191, ze_L0, ze_L1, ze_L2, ze_L3, ze_L4, ze_L5, ze_L6, ze_L7, ze_L8, ze_L9, ze_L10, ze_L15, ze_L16, ze_L24, ze_L40, ze_L48, ze_L63, ze_L64, ze_L127, ze_L255, ze_L400, ze_L1024, ze_L2047, ze_L65535]
        generalize hg : zx_sI k 50 0 i (nI (q + 1)) = k0 at *
        simp (disch := omega) only [zs_Ref_fillBean, r32, r47, r48, r49, r50, c31, c26, zd_R_mt HR, zd_R_sz HR, cqF, hg, n27b, fr2, ↓zd_bnd, ↓zy_bm, if_true, if_false, ite_true, ite_false, ↓reduceIte, Bool.false_eq_true, Bool.true_eq_false, eq_self, true_and, and_true, false_and, and_false, reduceCtorEq, decide_true, decide_false, not_true_eq_false, not_false_eq_true, ze_ltT, ze_ltF, ze_leT, ze_leF, ze_eqT, ze_eqF, ze_mlt, ze_ltm, ze_mle, ze_lem, ze_meq, ze_eqm, ze_mm, ze_mltm, ze_inT, ze_inF, ze_inM, ze_cl, ze_fin, ze_decT, ze_decF, Nat.reduceSub, Nat.reduceMul, nI_add, Nat.add_sub_cancel, Nat.add_assoc, Nat.reduceAdd, ze_r8, ze_r24, ze_r40, ze_r400, ze_l8, ze_l16, ze_l24, ze_l40, ze_sub, ze_am1, ze_es, ze_en, ze_i64, ze_m64, ze_64i, ze_64m, ze_LltT, ze_LltF, ze_LleT, ze_LleF, ze_LeqT, ze_LeqF, ze_Lmlt, ze_Lltm, ze_Lmle, ze_Llem, ze_Lmeq, ze_Leqm, ze_Lmm, lN_add, ze_ch, ze_chd, ze_bt, ze_bf, ze_n0, ze_n1, ze_n2, ze_n3, ze_n4, ze_n5, ze_n6, ze_n7, ze_n8, ze_n9, ze_n10, ze_n11, ze_n12, ze_n13, ze_n14, ze_n15, ze_n16, ze_n17, ze_n18, ze_n19, ze_n20, ze_n21, ze_n22, ze_n23, ze_n24, ze_n25, ze_n26, ze_n27, ze_n28, ze_n29, ze_n30, ze_n31, ze_n32, ze_n33, ze_n34, ze_n35, ze_n36, ze_n37, ze_n38, ze_n39, ze_n40, ze_n48, ze_n63, ze_n64, ze_n65, ze_n80, ze_n100, ze_n128, ze_n200, ze_n255, ze_n300, ze_n320, ze_n384, ze_n400, ze_n512, ze_n1023, ze_n1600, ze_n6400, ze_n9600, ze_n32768, ze_n65535, ze_n65536, ze_n802, ze_n8191, ze_L0, ze_L1, ze_L2, ze_L3, ze_L4, ze_L5, ze_L6, ze_L7, ze_L8, ze_L9, ze_L10, ze_L15, ze_L16, ze_L24, ze_L40, ze_L48, ze_L63, ze_L64, ze_L127, ze_L255, ze_L400, ze_L1024, ze_L2047, ze_L65535]
      · intro j hj em
        by_cases cj : j = i
        · rw [cj, zm_bump_i, hG] at em
          have : m = 16 := em
          omega
        · exact zm_st_bump st j hj cj em
    | none =>
      rw [e2] at fr2
      have fr2 : zs_Ref_firstRule (nI m) (nI 2) (nI (zd_nm A (zd_mt A m) q)) (zx_sI k 50 0 i (nI (q + 1))) = some (-nI 1) := fr2
      obtain ⟨z, z1, z2, z3, z4⟩ := zm_prop HC HR K PQ E rfl X0 Y0 P0 R0 I0 HB0 RB KB f37 hm h4 hq ho hto (show t < 400 by omega) e2 hm16
      have stb : ∀ j, j < (zm_bump G i).1.1 → ((zm_bump G i).1.2 j).1 = 16 → ((zm_bump G i).1.2 j).2.2.2 = zd_ln B ((zm_bump G i).1.2 j).2.2.1 := by
        intro j hj em
        by_cases cj : j = i
        · rw [cj, zm_bump_i, hG] at em
          have : m = 16 := em
          omega
        · exact zm_st_bump st j hj cj em
      have ref : ∀ v k1, zs_Ref_valueOf (nI m) (nI (zp_n A m q)) (nI (zp_y A m q)) (nI o) (zx_sI k 50 0 i (nI (q + 1))) = some (v, k1) → zs_Ref_fillBean k = some (zx_sJ k1 42 0 (16 * t + q) v) := by
        intro v k1 e
        rw [← c27] at n27
        rw [← c28] at n28
        have e : zs_Ref_valueOf (nI m) (nI (zd_nm A (zd_mt A m) q)) (nI (zd_pt A (zd_mt A m) q)) (nI o) (zx_sI k 50 0 i (nI (q + 1))) = some (v, k1) := e
        have n27b : (zx_sI k 50 0 i (nI (q + 1))).1 27 0 (8 * zd_mt A m + q) = nI (zd_nm A (zd_mt A m) q) := by rw [ze_sIF _ _ _ _ (by decide)]; exact n27
        have n28b : (zx_sI k 50 0 i (nI (q + 1))).1 28 0 (8 * zd_mt A m + q) = nI (zd_pt A (zd_mt A m) q) := by rw [ze_sIF _ _ _ _ (by decide)]; exact n28
        have cqF : (nI q = nI (zd_sz A (zd_mt A m))) = False := by simp (disch := omega) only [↓zd_bnd, ↓zy_bm, if_true, if_false, ite_true, ite_false, ↓reduceIte, Bool.false_eq_true, Bool.true_eq_false, eq_self, true_and, and_true, false_and, and_false, reduceCtorEq, decide_true, decide_false, not_true_eq_false, not_false_eq_true, ze_ltT, ze_ltF, ze_leT, ze_leF, ze_eqT, ze_eqF, ze_mlt, ze_ltm, ze_mle, ze_lem, ze_meq, ze_eqm, ze_mm, ze_mltm, ze_inT, ze_inF, ze_inM, ze_cl, ze_fin, ze_decT, ze_decF, Nat.reduceSub, Nat.reduceMul, nI_add, Nat.add_sub_cancel, Nat.add_assoc, Nat.reduceAdd, ze_r8, ze_r24, ze_r40, ze_r400, ze_l8, ze_l16, ze_l24, ze_l40, ze_sub, ze_am1, ze_es, ze_en, ze_i64, ze_m64, ze_64i, ze_64m, ze_LltT, ze_LltF, ze_LleT, ze_LleF, ze_LeqT, ze_LeqF, ze_Lmlt, ze_Lltm, ze_Lmle, ze_Llem, ze_Lmeq, ze_Leqm, ze_Lmm, lN_add, ze_ch, ze_chd, ze_bt, ze_bf, ze_n0, ze_n1, ze_n2, ze_n3, ze_n4, ze_n5, ze_n6, ze_n7, ze_n8, ze_n9, ze_n10, ze_n11, ze_n12, ze_n13, ze_n14, ze_n15, ze_n16, ze_n17, ze_n18, ze_n19, ze_n20, ze_n21, ze_n22, ze_n23, ze_n24, ze_n25, ze_n26, ze_n27, ze_n28, ze_n29, ze_n30, ze_n31, ze_n32, ze_n33, ze_n34, ze_n35, ze_n36, ze_n37, ze_n38, ze_n39, ze_n40, ze_n48, ze_n63, ze_n64, ze_n65, ze_n80, ze_n100, ze_n128, ze_n200, ze_n255, ze_n300, ze_n320, ze_n384, ze_n400, ze_n512, ze_n1023, ze_n1600, ze_n6400, ze_n9600, ze_n32768, ze_n65535, ze_n65536, ze_n802, ze_n8191, ze_L0, ze_L1, ze_L2, ze_L3, ze_L4, ze_L5, ze_L6, ze_L7, ze_L8, ze_L9, ze_L10, ze_L15, ze_L16, ze_L24, ze_L40, ze_L48, ze_L63, ze_L64, ze_L127, ze_L255, ze_L400, ze_L1024, ze_L2047, ze_L65535]
        generalize hg : zx_sI k 50 0 i (nI (q + 1)) = k0 at *
        simp (disch := omega) only [zs_Ref_fillBean, r32, r47, r48, r49, r50, c31, c26, zd_R_mt HR, zd_R_sz HR, cqF, hg, n27b, n28b, w48, fr2, e, ↓zd_bnd, ↓zy_bm, if_true, if_false, ite_true, ite_false, ↓reduceIte, Bool.false_eq_true, Bool.true_eq_false, eq_self, true_and, and_true, false_and, and_false, reduceCtorEq, decide_true, decide_false, not_true_eq_false, not_false_eq_true, ze_ltT, ze_ltF, ze_leT, ze_leF, ze_eqT, ze_eqF, ze_mlt, ze_ltm, ze_mle, ze_lem, ze_meq, ze_eqm, ze_mm, ze_mltm, ze_inT, ze_inF, ze_inM, ze_cl, ze_fin, ze_decT, ze_decF, Nat.reduceSub, Nat.reduceMul, nI_add, Nat.add_sub_cancel, Nat.add_assoc, Nat.reduceAdd, ze_r8, ze_r24, ze_r40, ze_r400, ze_l8, ze_l16, ze_l24, ze_l40, ze_sub, ze_am1, ze_es, ze_en, ze_i64, ze_m64, ze_64i, ze_64m, ze_LltT, ze_LltF, ze_LleT, ze_LleF, ze_LeqT, ze_LeqF, ze_Lmlt, ze_Lltm, ze_Lmle, ze_Llem, ze_Lmeq, ze_Leqm, ze_Lmm, lN_add, ze_ch, ze_chd, ze_bt, ze_bf, ze_n0, ze_n1, ze_n2, ze_n3, ze_n4, ze_n5, ze_n6, ze_n7, ze_n8, ze_n9, ze_n10, ze_n11, ze_n12, ze_n13, ze_n14, ze_n15, ze_n16, ze_n17, ze_n18, ze_n19, ze_n20, ze_n21, ze_n22, ze_n23, ze_n24, ze_n25, ze_n26, ze_n27, ze_n28, ze_n29, ze_n30, ze_n31, ze_n32, ze_n33, ze_n34, ze_n35, ze_n36, ze_n37, ze_n38, ze_n39, ze_n40, ze_n48, ze_n63, ze_n64, ze_n65, ze_n80, ze_n100, ze_n128, ze_n200, ze_n255, ze_n300, ze_n320, ze_n384, ze_n400, ze_n512, ze_n1023, ze_n1600, ze_n6400, ze_n9600, ze_n32768, ze_n65535, ze_n65536, ze_n802, ze_n8191, ze_L0, ze_L1, ze_L2, ze_L3, ze_L4, ze_L5, ze_L6, ze_L7, ze_L8, ze_L9, ze_L10, ze_L15, ze_L16, ze_L24, ze_L40, ze_L48, ze_L63, ze_L64, ze_L127, ze_L255, ze_L400, ze_L1024, ze_L2047, ze_L65535]
      have y2 : zd_pt B (zd_ty B t) q = zp_y A m q := by rw [sA.2.2.1, htt]; rfl
      have s4 : zd_srt B (zd_ty B t) = 4 := by rw [sA.1, htt]; exact h4
      have hGb : (zm_bump G i).1.2 i = (m, o, t, q + 1) := by rw [zm_bump_i, hG]
      rcases z4 with ⟨rc, z5, z6⟩ | ⟨rfl, z6⟩
      · cases z with
        | none =>
          obtain ⟨v, s1, rfl, g1, g2⟩ := z5
          obtain ⟨v2, k1, g3, g4, g5⟩ := z1
          obtain ⟨b, s2, g6, g7, g8⟩ := zm_set_any (show t < 400 by omega) (show q < 24 by omega) v s1
          refine ⟨s2, zx_sJ k1 42 0 (16 * t + q) v2, cls _ ?_, ref _ _ g3, Or.inl ⟨?_, by rw [g7]; exact g2, zd_fR_J g4 _ (by omega), g5⟩⟩
          · rw [z6]
            simp (disch := omega) only [g6, ↓zd_bnd, ↓zy_bm, if_true, if_false, ite_true, ite_false, ↓reduceIte, Bool.false_eq_true, Bool.true_eq_false, eq_self, true_and, and_true, false_and, and_false, reduceCtorEq, decide_true, decide_false, not_true_eq_false, not_false_eq_true, ze_ltT, ze_ltF, ze_leT, ze_leF, ze_eqT, ze_eqF, ze_mlt, ze_ltm, ze_mle, ze_lem, ze_meq, ze_eqm, ze_mm, ze_mltm, ze_inT, ze_inF, ze_inM, ze_cl, ze_fin, ze_decT, ze_decF, Nat.reduceSub, Nat.reduceMul, nI_add, Nat.add_sub_cancel, Nat.add_assoc, Nat.reduceAdd, ze_r8, ze_r24, ze_r40, ze_r400, ze_l8, ze_l16, ze_l24, ze_l40, ze_sub, ze_am1, ze_es, ze_en, ze_i64, ze_m64, ze_64i, ze_64m, ze_LltT, ze_LltF, ze_LleT, ze_LleF, ze_LeqT, ze_LeqF, ze_Lmlt, ze_Lltm, ze_Lmle, ze_Llem, ze_Lmeq, ze_Leqm, ze_Lmm, lN_add, ze_ch, ze_chd, ze_bt, ze_bf, ze_n0, ze_n1, ze_n2, ze_n3, ze_n4, ze_n5, ze_n6, ze_n7, ze_n8, ze_n9, ze_n10, ze_n11, ze_n12, ze_n13, ze_n14, ze_n15, ze_n16, ze_n17, ze_n18, ze_n19, ze_n20, ze_n21, ze_n22, ze_n23, ze_n24, ze_n25, ze_n26, ze_n27, ze_n28, ze_n29, ze_n30, ze_n31, ze_n32, ze_n33, ze_n34, ze_n35, ze_n36, ze_n37, ze_n38, ze_n39, ze_n40, ze_n48, ze_n63, ze_n64, ze_n65, ze_n80, ze_n100, ze_n128, ze_n200, ze_n255, ze_n300, ze_n320, ze_n384, ze_n400, ze_n512, ze_n1023, ze_n1600, ze_n6400, ze_n9600, ze_n32768, ze_n65535, ze_n65536, ze_n802, ze_n8191, ze_L0, ze_L1, ze_L2, ze_L3, ze_L4, ze_L5, ze_L6, ze_L7, ze_L8, ze_L9, ze_L10, ze_L15, ze_L16, ze_L24, ze_L40, ze_L48, ze_L63, ze_L64, ze_L127, ze_L255, ze_L400, ze_L1024, ze_L2047, ze_L65535]
          · have fx := zd_fC_trans fc0 (zd_fC_mono g1 E.2.1)
            rcases g8 with rfl | rfl
            · exact fx
            · exact zd_fC_J fx _ (by omega)
        | some y =>
          obtain ⟨v, ob, G1⟩ := y
          obtain ⟨s1, rfl, g1, g2, g3⟩ := z5
          obtain ⟨k1, g4, g5, g6, g7⟩ := z1
          obtain ⟨f1, B2, f2, f3⟩ := zm_fin_set K E KB rfl HB0 RB0 fc0 fr0 I0 stb (i := i) hi hGb ht1 ht2 s4 (by rw [lnt]; exact hq) (by rw [y2]; exact z2) z3 g1 g2 g3 g5 g6 g7
          refine ⟨zx_sJ s1 10 0 (24 * t + q) v, zx_sJ k1 42 0 (16 * t + q) v, cls _ ?_, ref _ _ g4, Or.inr ⟨B2, G1, f2, by omega⟩⟩
          rw [z6]
          simp (disch := omega) only [f1, ↓zd_bnd, ↓zy_bm, if_true, if_false, ite_true, ite_false, ↓reduceIte, Bool.false_eq_true, Bool.true_eq_false, eq_self, true_and, and_true, false_and, and_false, reduceCtorEq, decide_true, decide_false, not_true_eq_false, not_false_eq_true, ze_ltT, ze_ltF, ze_leT, ze_leF, ze_eqT, ze_eqF, ze_mlt, ze_ltm, ze_mle, ze_lem, ze_meq, ze_eqm, ze_mm, ze_mltm, ze_inT, ze_inF, ze_inM, ze_cl, ze_fin, ze_decT, ze_decF, Nat.reduceSub, Nat.reduceMul, nI_add, Nat.add_sub_cancel, Nat.add_assoc, Nat.reduceAdd, ze_r8, ze_r24, ze_r40, ze_r400, ze_l8, ze_l16, ze_l24, ze_l40, ze_sub, ze_am1, ze_es, ze_en, ze_i64, ze_m64, ze_64i, ze_64m, ze_LltT, ze_LltF, ze_LleT, ze_LleF, ze_LeqT, ze_LeqF, ze_Lmlt, ze_Lltm, ze_Lmle, ze_Llem, ze_Lmeq, ze_Leqm, ze_Lmm, lN_add, ze_ch, ze_chd, ze_bt, ze_bf, ze_n0, ze_n1, ze_n2, ze_n3, ze_n4, ze_n5, ze_n6, ze_n7, ze_n8, ze_n9, ze_n10, ze_n11, ze_n12, ze_n13, ze_n14, ze_n15, ze_n16, ze_n17, ze_n18, ze_n19, ze_n20, ze_n21, ze_n22, ze_n23, ze_n24, ze_n25, ze_n26, ze_n27, ze_n28, ze_n29, ze_n30, ze_n31, ze_n32, ze_n33, ze_n34, ze_n35, ze_n36, ze_n37, ze_n38, ze_n39, ze_n40, ze_n48, ze_n63, ze_n64, ze_n65, ze_n80, ze_n100, ze_n128, ze_n200, ze_n255, ze_n300, ze_n320, ze_n384, ze_n400, ze_n512, ze_n1023, ze_n1600, ze_n6400, ze_n9600, ze_n32768, ze_n65535, ze_n65536, ze_n802, ze_n8191, ze_L0, ze_L1, ze_L2, ze_L3, ze_L4, ze_L5, ze_L6, ze_L7, ze_L8, ze_L9, ze_L10, ze_L15, ze_L16, ze_L24, ze_L40, ze_L48, ze_L63, ze_L64, ze_L127, ze_L255, ze_L400, ze_L1024, ze_L2047, ze_L65535]
      · -- nothing is written by the class
        obtain ⟨k1, g4, g5, g6, g7⟩ := z1
        have vl : zd_vl B t q = zg_emp (zp_y A m q) := hemp q (Nat.le_refl _) hq
        have R1 : zd_R B k1 := zm_R_new RB0 KB rfl g5 (ob := none) g7
        have cell : k1.2 42 0 (16 * t + q) = zg_emp (zp_y A m q) := by
          rw [zd_R_vl R1 t q ht2 (by rw [lnt]; exact hq) (by intro z; rw [z] at s4; have := zd_ok_s2 KB; omega)]; exact vl
        have idk : zx_sJ k1 42 0 (16 * t + q) (zg_emp (zp_y A m q)) = k1 := by
          refine Prod.ext rfl ?_
          funext F a b
          by_cases c : F = 42 ∧ a = 0 ∧ b = 16 * t + q
          · obtain ⟨rfl, rfl, rfl⟩ := c
            simp (disch := omega) only [ze_gIs, ze_gIn, ze_gJs, ze_gJn, zd_gI2, zd_gJ1, ze_sII]
            exact cell.symm
          · rw [ze_gJn _ _ _ _ _ _ _ _ (by omega)]
        have rr := ref _ _ g4
        rw [idk] at rr
        exact ⟨zx_sI s 21 0 i (nI (q + 1)), k1, cls _ z6, rr, Or.inr ⟨B, zm_bump G i, ⟨HB0, R1, KB, E, P0, g6, I0, fc0, zd_fR_trans fr0 (zd_fR_mono g5 E.2.1), stb⟩, phB⟩⟩
