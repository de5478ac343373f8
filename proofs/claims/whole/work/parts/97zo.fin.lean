/-! a turn ends -/
theorem zm_CP_I {G : zm_G} {s : zx_H} (P : zm_CP G s) {F : Nat} (hF : ¬ (17 ≤ F ∧ F ≤ 23)) (i j : Nat) (x : Int32) : zm_CP G (zx_sI s F i j x) := by
  have e := fun F2 (h : 17 ≤ F2 ∧ F2 ≤ 23) => ze_sIF s (F := F) (G := F2) i j x (by omega)
  unfold zm_CP at P ⊢
  rw [e 17 (by decide), e 18 (by decide), e 19 (by decide), e 20 (by decide), e 21 (by decide), e 22 (by decide), e 23 (by decide)]
  exact P
theorem zm_RP_I {G : zm_G} {s : zx_H} (P : zm_RP G s) {F : Nat} (hF : ¬ (44 ≤ F ∧ F ≤ 50) ∧ F ≠ 24) (i j : Nat) (x : Int32) : zm_RP G (zx_sI s F i j x) := by
  have e := fun F2 (h : 44 ≤ F2 ∧ F2 ≤ 50 ∨ F2 = 24) => ze_sIF s (F := F) (G := F2) i j x (by omega)
  unfold zm_RP at P ⊢
  rw [e 44 (by decide), e 45 (by decide), e 46 (by decide), e 47 (by decide), e 48 (by decide), e 49 (by decide), e 50 (by decide), e 24 (by decide)]
  exact P
theorem zm_app_any {t l : Nat} (ht : t < 400) (hl : l < 24) (v : Int64) {s : zx_H} (e : s.1 9 0 t = nI l) : ∃ b s2, zs_Store_append (nI t) v s = some (b, s2) ∧ (s2 = s ∨ s2 = zx_sI (zx_sJ s 10 0 (24 * t + l) v) 9 0 t (nI (l + 1))) := by
  by_cases c1 : s.1 7 0 4 ≤ nI t
  · refine ⟨false, s, ?_, Or.inl rfl⟩
    simp (disch := omega) only [zs_Store_append, c1, ↓zd_bnd, ↓zy_bm, if_true, if_false, ite_true, ite_false, ↓reduceIte, Bool.false_eq_true, Bool.true_eq_false, eq_self, true_and, and_true, false_and, and_false, reduceCtorEq, decide_true, decide_false, not_true_eq_false, not_false_eq_true, ze_ltT, ze_ltF, ze_leT, ze_leF, ze_eqT, ze_eqF, ze_mlt, ze_ltm, ze_mle, ze_lem, ze_meq, ze_eqm, ze_mm, ze_mltm, ze_inT, ze_inF, ze_inM, ze_cl, ze_fin, ze_decT, ze_decF, Nat.reduceSub, Nat.reduceMul, nI_add, Nat.add_sub_cancel, Nat.add_assoc, Nat.reduceAdd, ze_r8, ze_r24, ze_r40, ze_r400, ze_l8, ze_l16, ze_l24, ze_l40, ze_sub, ze_am1, ze_es, ze_en, ze_i64, ze_m64, ze_64i, ze_64m, ze_LltT, ze_LltF, ze_LleT, ze_LleF, ze_LeqT, ze_LeqF, ze_Lmlt, ze_Lltm, ze_Lmle, ze_Llem, ze_Lmeq, ze_Leqm, ze_Lmm, lN_add, ze_ch, ze_chd, ze_bt, ze_bf, ze_n0, ze_n1, ze_n2, ze_n3, ze_n4, ze_n5, ze_n6, ze_n7, ze_n8, ze_n9, ze_n10, ze_n11, ze_n12, ze_n13, ze_n14, ze_n15, ze_n16, ze_n17, ze_n18, ze_n19, ze_n20, ze_n21, ze_n22, ze_n23, ze_n24, ze_n25, ze_n26, ze_n27, ze_n28, ze_n29, ze_n30, ze_n31, ze_n32, ze_n33, ze_n34, ze_n35, ze_n36, ze_n37, ze_n38, ze_n39, ze_n40, ze_n48, ze_n63, ze_n64, ze_n65, ze_n80, ze_n100, ze_n128, ze_n200, ze_n255, ze_n300, ze_n320, ze_n384, ze_n400, ze_n512, ze_n1023, ze_n1600, ze_n6400, ze_n9600, ze_n32768, ze_n65535, ze_n65536, ze_n802, ze_n8191, ze_L0, ze_L1, ze_L2, ze_L3, ze_L4, ze_L5, ze_L6, ze_L7, ze_L8, ze_L9, ze_L10, ze_L15, ze_L16, ze_L24, ze_L40, ze_L48, ze_L63, ze_L64, ze_L127, ze_L255, ze_L400, ze_L1024, ze_L2047, ze_L65535]
  · refine ⟨true, zx_sI (zx_sJ s 10 0 (24 * t + l) v) 9 0 t (nI (l + 1)), ?_, Or.inr rfl⟩
    simp (disch := omega) only [zs_Store_append, c1, e, ↓zd_bnd, ↓zy_bm, if_true, if_false, ite_true, ite_false, ↓reduceIte, Bool.false_eq_true, Bool.true_eq_false, eq_self, true_and, and_true, false_and, and_false, reduceCtorEq, decide_true, decide_false, not_true_eq_false, not_false_eq_true, ze_ltT, ze_ltF, ze_leT, ze_leF, ze_eqT, ze_eqF, ze_mlt, ze_ltm, ze_mle, ze_lem, ze_meq, ze_eqm, ze_mm, ze_mltm, ze_inT, ze_inF, ze_inM, ze_cl, ze_fin, ze_decT, ze_decF, Nat.reduceSub, Nat.reduceMul, nI_add, Nat.add_sub_cancel, Nat.add_assoc, Nat.reduceAdd, ze_r8, ze_r24, ze_r40, ze_r400, ze_l8, ze_l16, ze_l24, ze_l40, ze_sub, ze_am1, ze_es, ze_en, ze_i64, ze_m64, ze_64i, ze_64m, ze_LltT, ze_LltF, ze_LleT, ze_LleF, ze_LeqT, ze_LeqF, ze_Lmlt, ze_Lltm, ze_Lmle, ze_Llem, ze_Lmeq, ze_Leqm, ze_Lmm, lN_add, ze_ch, ze_chd, ze_bt, ze_bf, ze_n0, ze_n1, ze_n2, ze_n3, ze_n4, ze_n5, ze_n6, ze_n7, ze_n8, ze_n9, ze_n10, ze_n11, ze_n12, ze_n13, ze_n14, ze_n15, ze_n16, ze_n17, ze_n18, ze_n19, ze_n20, ze_n21, ze_n22, ze_n23, ze_n24, ze_n25, ze_n26, ze_n27, ze_n28, ze_n29, ze_n30, ze_n31, ze_n32, ze_n33, ze_n34, ze_n35, ze_n36, ze_n37, ze_n38, ze_n39, ze_n40, ze_n48, ze_n63, ze_n64, ze_n65, ze_n80, ze_n100, ze_n128, ze_n200, ze_n255, ze_n300, ze_n320, ze_n384, ze_n400, ze_n512, ze_n1023, ze_n1600, ze_n6400, ze_n9600, ze_n32768, ze_n65535, ze_n65536, ze_n802, ze_n8191, ze_L0, ze_L1, ze_L2, ze_L3, ze_L4, ze_L5, ze_L6, ze_L7, ze_L8, ze_L9, ze_L10, ze_L15, ze_L16, ze_L24, ze_L40, ze_L48, ze_L63, ze_L64, ze_L127, ze_L255, ze_L400, ze_L1024, ze_L2047, ze_L65535, ze_gIs, ze_gIn, ze_gJs, ze_gJn, zd_gI2, zd_gJ1, ze_sII]
theorem zm_hO {B : zd_A} {n : Nat} (hn : n = zd_O B) {ob : zm_Ob} {s : zx_H} (o : zm_obC n ob s) : ob ≠ none → zd_O B < 400 := by
  intro h
  cases ob with
  | none => exact absurd rfl h
  | some q =>
    obtain ⟨t, c, f⟩ := q
    have := o.1
    omega
theorem zm_strict_new {A B : zd_A} {hc : zx_H} {G G1 : zm_G} {ob : zm_Ob} (I1 : zm_inv A hc (zm_new B ob) G1) (I : zm_inv A hc B G) (gr : G1 = G ∨ (ob ≠ none ∧ ∃ m o t, G1.1 = (zm_push G m o t).1)) {j : Nat} (hj : j < G1.1.1) (em : (G1.1.2 j).1 = 16) (st : j < G.1.1 → (G.1.2 j).1 = 16 → (G.1.2 j).2.2.2 = zd_ln B (G.1.2 j).2.2.1) (hM : zd_M A ≤ 16) : (G1.1.2 j).2.2.2 = zd_ln (zm_new B ob) (G1.1.2 j).2.2.1 := by
  obtain ⟨g1, g2, g3⟩ := zm_gro gr
  obtain ⟨a1, a2, a3, a4⟩ := I1.2.2.2.1 j hj
  rcases g3 j hj with c | c
  · rw [g2 j c] at em ⊢
    have h := (I.2.2.2.1 j c).2.2.1
    rw [zm_new_ln h]
    exact st c em
  · rcases a4 with ⟨b1, _⟩ | ⟨_, _, _, b4, _⟩
    · omega
    · omega
/-- a cell of a bean is written -/
theorem zm_fin_set {A B : zd_A} {hc hr : zx_H} (K : zd_ok A) (E : zm_ext A B) (KB : zd_ok B) {s0 k0 s1 k1 : zx_H} {n : Nat} (hn : n = zd_O B) (HB : zd_C B s0) (RB : zd_R B k0) (fc : zd_fC (zd_O A) hc s0) (fr : zd_fR (zd_O A) hr k0) {G0 G1 : zm_G} (I0 : zm_inv A hc B G0) (st0 : ∀ j, j < G0.1.1 → (G0.1.2 j).1 = 16 → (G0.1.2 j).2.2.2 = zd_ln B (G0.1.2 j).2.2.1) {i m o t q : Nat} (hi : i < G0.1.1) (hG : G0.1.2 i = (m, o, t, q + 1)) (ht : zd_O A ≤ t) (ht2 : t < zd_O B) (h4 : zd_srt B (zd_ty B t) = 4) (hq : q < zd_ln B t) {v : Int64} {ob : zm_Ob} (fit : zm_fitZ B (zd_pt B (zd_ty B t) q) (some (v, ob, G1))) (inv : zm_invZ A hc B G0 (some (v, ob, G1))) (c1 : zd_fC n s0 s1) (c2 : zm_CP G1 s1) (c3 : zm_obC n ob s1) (r1 : zd_fR n k0 k1) (r2 : zm_RP G1 k1) (r3 : zm_obR n ob k1) : zs_Store_set (nI t) (nI q) v s1 = some (true, zx_sJ s1 10 0 (24 * t + q) v) ∧ ∃ B2, zm_LS A hc hr B2 G1 (zx_sJ s1 10 0 (24 * t + q) v) (zx_sJ k1 42 0 (16 * t + q) v) ∧ zm_Ph B2 G1 ≤ zm_Ph B G0 := by
  have hO := zm_hO hn c3
  have hT := zd_ok_T KB
  have hM := zd_ok_M K
  have hO4 := zd_ok_O KB
  have hyt := zd_ok_ty KB t ht2
  have l4 := zd_ok_l4 KB t ht2 h4
  have hz := zd_ok_sz KB (zd_ty B t) (by omega)
  have hp := zd_ok_pt KB _ q hyt.2.1 (by omega) h4
  have K1 := zm_ok_new KB hp hO fit
  have H1 := zm_C_new HB KB hn c1 c3
  have R1 := zm_R_new RB KB hn r1 r3
  have E1 := zm_ext_new E ob
  have hO1 := zm_new_O B ob
  have t1 := zm_new_ty (ob := ob) ht2
  have l1 := zm_new_ln (ob := ob) ht2
  have st := zm_st E
  have st1 := zm_st E1
  have srt1 : zd_srt (zm_new B ob) = zd_srt B := st1.1.trans st.1.symm
  have pt1 : zd_pt (zm_new B ob) = zd_pt B := st1.2.2.1.trans st.2.2.1.symm
  have gr := zm_gro inv.2
  have hO14 := zd_ok_O K1.1
  refine ⟨?_, zg_set (zm_new B ob) t q v, ⟨?_, ?_, ?_, zm_ext_set E1 ht q v, c2, r2, ?_, ?_, ?_, ?_⟩, zm_Ph_new hO inv.2⟩
  · simp (disch := omega) only [zs_Store_set_J31, zs_Store_set_J30, zs_Store_set, zd_C_O H1, zd_C_ln H1, l1, ↓zd_bnd, ↓zy_bm, if_true, if_false, ite_true, ite_false, ↓reduceIte, Bool.false_eq_true, Bool.true_eq_false, eq_self, true_and, and_true, false_and, and_false, reduceCtorEq, decide_true, decide_false, not_true_eq_false, not_false_eq_true, ze_ltT, ze_ltF, ze_leT, ze_leF, ze_eqT, ze_eqF, ze_mlt, ze_ltm, ze_mle, ze_lem, ze_meq, ze_eqm, ze_mm, ze_mltm, ze_inT, ze_inF, ze_inM, ze_cl, ze_fin, ze_decT, ze_decF, Nat.reduceSub, Nat.reduceMul, nI_add, Nat.add_sub_cancel, Nat.add_assoc, Nat.reduceAdd, ze_r8, ze_r24, ze_r40, ze_r400, ze_l8, ze_l16, ze_l24, ze_l40, ze_sub, ze_am1, ze_es, ze_en, ze_i64, ze_m64, ze_64i, ze_64m, ze_LltT, ze_LltF, ze_LleT, ze_LleF, ze_LeqT, ze_LeqF, ze_Lmlt, ze_Lltm, ze_Lmle, ze_Llem, ze_Lmeq, ze_Leqm, ze_Lmm, lN_add, ze_ch, ze_chd, ze_bt, ze_bf, ze_n0, ze_n1, ze_n2, ze_n3, ze_n4, ze_n5, ze_n6, ze_n7, ze_n8, ze_n9, ze_n10, ze_n11, ze_n12, ze_n13, ze_n14, ze_n15, ze_n16, ze_n17, ze_n18, ze_n19, ze_n20, ze_n21, ze_n22, ze_n23, ze_n24, ze_n25, ze_n26, ze_n27, ze_n28, ze_n29, ze_n30, ze_n31, ze_n32, ze_n33, ze_n34, ze_n35, ze_n36, ze_n37, ze_n38, ze_n39, ze_n40, ze_n48, ze_n63, ze_n64, ze_n65, ze_n80, ze_n100, ze_n128, ze_n200, ze_n255, ze_n300, ze_n320, ze_n384, ze_n400, ze_n512, ze_n1023, ze_n1600, ze_n6400, ze_n9600, ze_n32768, ze_n65535, ze_n65536, ze_n802, ze_n8191, ze_L0, ze_L1, ze_L2, ze_L3, ze_L4, ze_L5, ze_L6, ze_L7, ze_L8, ze_L9, ze_L10, ze_L15, ze_L16, ze_L24, ze_L40, ze_L48, ze_L63, ze_L64, ze_L127, ze_L255, ze_L400, ze_L1024, ze_L2047, ze_L65535]
  · exact zg_C_set H1 K1.1 (by omega) (by rw [l1]; exact hq)
  · exact zg_R_set R1 K1.1 (by omega) (by rw [l1]; exact hq) (by rw [t1]; intro z; have := zd_ok_s2 KB; rw [← z] at this; omega)
  · exact zg_ok_set K1.1 (by omega) (by rw [l1]; exact hq) (by rw [t1, srt1]; exact h4) (by rw [t1, pt1]; exact K1.2)
  · have e := gr.2.1 i hi
    exact zm_inv_set inv.1 (i := i) (by omega) (by rw [e, hG]) (by rw [e, hG]) v
  · exact zd_fC_J (zd_fC_trans fc (zd_fC_mono c1 (by have := E.2.1; omega))) v (by omega)
  · exact zd_fR_J (zd_fR_trans fr (zd_fR_mono r1 (by have := E.2.1; omega))) v (by omega)
  · intro j hj em
    exact zm_strict_new inv.1 I0 inv.2 hj em (st0 j) hM
/-- a list grows -/
theorem zm_fin_app {A B : zd_A} {hc hr : zx_H} (K : zd_ok A) (E : zm_ext A B) (KB : zd_ok B) {s0 k0 s1 k1 : zx_H} {n : Nat} (hn : n = zd_O B) (HB : zd_C B s0) (RB : zd_R B k0) (fc : zd_fC (zd_O A) hc s0) (fr : zd_fR (zd_O A) hr k0) {G0 G1 : zm_G} (I0 : zm_inv A hc B G0) {i o t : Nat} (st0 : ∀ j, j < G0.1.1 → j ≠ i → (G0.1.2 j).1 = 16 → (G0.1.2 j).2.2.2 = zd_ln B (G0.1.2 j).2.2.1) (hi : i < G0.1.1) (hG : G0.1.2 i = (16, o, t, zd_ln B t + 1)) (ht : zd_O A ≤ t) (ht2 : t < zd_O B) (h5 : zd_srt B (zd_ty B t) = 5) (hq : zd_ln B t < 16) {v : Int64} {ob : zm_Ob} (fit : zm_fitZ B (zd_of B (zd_ty B t)) (some (v, ob, G1))) (inv : zm_invZ A hc B G0 (some (v, ob, G1))) (c1 : zd_fC n s0 s1) (c2 : zm_CP G1 s1) (c3 : zm_obC n ob s1) (r1 : zd_fR n (zx_sI k0 41 0 t (nI (zd_ln B t + 1))) k1) (r2 : zm_RP G1 k1) (r3 : zm_obR n ob k1) : zs_Store_append (nI t) v s1 = some (true, zx_sI (zx_sJ s1 10 0 (24 * t + zd_ln B t) v) 9 0 t (nI (zd_ln B t + 1))) ∧ ∃ B2, zm_LS A hc hr B2 G1 (zx_sI (zx_sJ s1 10 0 (24 * t + zd_ln B t) v) 9 0 t (nI (zd_ln B t + 1))) (zx_sJ k1 42 0 (16 * t + zd_ln B t) v) ∧ zm_Ph B2 G1 ≤ zm_Ph B G0 := by
  have hO := zm_hO hn c3
  have hT := zd_ok_T KB
  have hM := zd_ok_M K
  have hO4 := zd_ok_O KB
  have hyt := zd_ok_ty KB t ht2
  have hof := zd_ok_of KB _ hyt.2.1 h5
  have K1 := zm_ok_new KB (b := zd_of B (zd_ty B t)) (by omega) hO fit
  have H1 := zm_C_new HB KB hn c1 c3
  have c0 : k0.1 41 0 t = nI (zd_ln B t) := zd_R_ln RB t ht2
  have n41 : k1.1 41 0 t = nI (zd_ln B t + 1) := by
    rw [(r1.2.2.1 t (by omega)).2]; simp (disch := omega) only [ze_gIs, ze_gIn, ze_gJs, ze_gJn, zd_gI2, zd_gJ1, ze_sII]
  have r0 : zd_fR n k0 (zx_sI k1 41 0 t (nI (zd_ln B t))) := by
    refine ⟨fun F h1 h2 => ?_, fun j hj => ?_, fun x hx => ?_, fun j hj => ?_, fun j hj => ?_⟩
    · have := r1.1 F h1 h2
      refine ⟨?_, this.2⟩
      rw [ze_sIF _ _ _ _ (by omega), this.1, ze_sIF _ _ _ _ (by omega)]
    · rw [ze_sIF _ _ _ _ (by decide), r1.2.1 j hj, ze_sIF _ _ _ _ (by decide)]
    · have := r1.2.2.1 x hx
      rw [ze_sIF _ _ _ _ (by decide), this.1, ze_sIF _ _ _ _ (by decide)]
      refine ⟨rfl, ?_⟩
      by_cases c : x = t
      · subst c
        simp (disch := omega) only [ze_gIs, ze_gIn, ze_gJs, ze_gJn, zd_gI2, zd_gJ1, ze_sII]; exact c0.symm
      · have e := this.2
        simp (disch := omega) only [ze_gIs, ze_gIn, ze_gJs, ze_gJn, zd_gI2, zd_gJ1, ze_sII]
        rw [e]
        simp (disch := omega) only [ze_gIs, ze_gIn, ze_gJs, ze_gJn, zd_gI2, zd_gJ1, ze_sII]
    · exact r1.2.2.2.1 j hj
    · rw [ze_sIF _ _ _ _ (by decide), r1.2.2.2.2 j hj, ze_sIF _ _ _ _ (by decide)]
  have r3b : zm_obR n ob (zx_sI k1 41 0 t (nI (zd_ln B t))) := by
    cases ob with
    | none =>
      show (zx_sI k1 41 0 t (nI (zd_ln B t))).1 24 0 23 = nI n
      have r3 : k1.1 24 0 23 = nI n := r3
      simp (disch := omega) only [ze_gIs, ze_gIn, ze_gJs, ze_gJn, zd_gI2, zd_gJ1, ze_sII]; exact r3
    | some q =>
      obtain ⟨u, c, f⟩ := q
      obtain ⟨o1, o2, o3, o4, o5, o6⟩ := r3
      have hne : ¬ n = t := by omega
      refine ⟨o1, by simp (disch := omega) only [ze_gIs, ze_gIn, ze_gJs, ze_gJn, zd_gI2, zd_gJ1, ze_sII]; exact o2, by simp (disch := omega) only [ze_gIs, ze_gIn, ze_gJs, ze_gJn, zd_gI2, zd_gJ1, ze_sII]; exact o3, by simp (disch := omega) only [ze_gIs, ze_gIn, ze_gJs, ze_gJn, zd_gI2, zd_gJ1, ze_sII]; exact o4, o5, fun z j hj => ?_⟩
      have e := o6 z j hj
      simp (disch := omega) only [ze_gIs, ze_gIn, ze_gJs, ze_gJn, zd_gI2, zd_gJ1, ze_sII]
      exact e
  have R1 := zm_R_new RB KB hn r0 r3b
  have E1 := zm_ext_new E ob
  have hO1 := zm_new_O B ob
  have t1 := zm_new_ty (ob := ob) ht2
  have l1 := zm_new_ln (ob := ob) ht2
  have st := zm_st E
  have st1 := zm_st E1
  have srt1 : zd_srt (zm_new B ob) = zd_srt B := st1.1.trans st.1.symm
  have of1 : zd_of (zm_new B ob) = zd_of B := st1.2.2.2.1.trans st.2.2.2.1.symm
  have gr := zm_gro inv.2
  have hO14 := zd_ok_O K1.1
  have HA := zg_C_app H1 K1.1 (p := t) (x := v) (by omega) (by omega)
  have RA := zg_R_app R1 K1.1 (p := t) (x := v) (by omega) (by omega) (by rw [t1]; intro z; have := zd_ok_s2 KB; rw [← z] at this; omega)
  rw [l1] at HA RA
  have ek : zx_sI (zx_sJ (zx_sI k1 41 0 t (nI (zd_ln B t))) 42 0 (16 * t + zd_ln B t) v) 41 0 t (nI (zd_ln B t + 1)) = zx_sJ k1 42 0 (16 * t + zd_ln B t) v := by
    refine Prod.ext ?_ rfl
    funext F a b
    by_cases c : F = 41 ∧ a = 0 ∧ b = t
    · obtain ⟨rfl, rfl, rfl⟩ := c
      simp (disch := omega) only [ze_gIs, ze_gIn, ze_gJs, ze_gJn, zd_gI2, zd_gJ1, ze_sII]
      exact n41.symm
    · rw [ze_gIn _ _ _ _ _ _ _ _ (by omega)]
      show (zx_sI k1 41 0 t (nI (zd_ln B t))).1 F a b = k1.1 F a b
      rw [ze_gIn _ _ _ _ _ _ _ _ (by omega)]
  rw [ek] at RA
  refine ⟨?_, zg_app (zm_new B ob) t v, ⟨HA, RA, ?_, zm_ext_app E1 ht v, zm_CP_I c2 (by decide) _ _ _, r2, ?_, ?_, ?_, ?_⟩, ?_⟩
  · simp (disch := omega) only [zs_Store_append, zd_C_O H1, zd_C_ln H1, l1, ↓zd_bnd, ↓zy_bm, if_true, if_false, ite_true, ite_false, ↓reduceIte, Bool.false_eq_true, Bool.true_eq_false, eq_self, true_and, and_true, false_and, and_false, reduceCtorEq, decide_true, decide_false, not_true_eq_false, not_false_eq_true, ze_ltT, ze_ltF, ze_leT, ze_leF, ze_eqT, ze_eqF, ze_mlt, ze_ltm, ze_mle, ze_lem, ze_meq, ze_eqm, ze_mm, ze_mltm, ze_inT, ze_inF, ze_inM, ze_cl, ze_fin, ze_decT, ze_decF, Nat.reduceSub, Nat.reduceMul, nI_add, Nat.add_sub_cancel, Nat.add_assoc, Nat.reduceAdd, ze_r8, ze_r24, ze_r40, ze_r400, ze_l8, ze_l16, ze_l24, ze_l40, ze_sub, ze_am1, ze_es, ze_en, ze_i64, ze_m64, ze_64i, ze_64m, ze_LltT, ze_LltF, ze_LleT, ze_LleF, ze_LeqT, ze_LeqF, ze_Lmlt, ze_Lltm, ze_Lmle, ze_Llem, ze_Lmeq, ze_Leqm, ze_Lmm, lN_add, ze_ch, ze_chd, ze_bt, ze_bf, ze_n0, ze_n1, ze_n2, ze_n3, ze_n4, ze_n5, ze_n6, ze_n7, ze_n8, ze_n9, ze_n10, ze_n11, ze_n12, ze_n13, ze_n14, ze_n15, ze_n16, ze_n17, ze_n18, ze_n19, ze_n20, ze_n21, ze_n22, ze_n23, ze_n24, ze_n25, ze_n26, ze_n27, ze_n28, ze_n29, ze_n30, ze_n31, ze_n32, ze_n33, ze_n34, ze_n35, ze_n36, ze_n37, ze_n38, ze_n39, ze_n40, ze_n48, ze_n63, ze_n64, ze_n65, ze_n80, ze_n100, ze_n128, ze_n200, ze_n255, ze_n300, ze_n320, ze_n384, ze_n400, ze_n512, ze_n1023, ze_n1600, ze_n6400, ze_n9600, ze_n32768, ze_n65535, ze_n65536, ze_n802, ze_n8191, ze_L0, ze_L1, ze_L2, ze_L3, ze_L4, ze_L5, ze_L6, ze_L7, ze_L8, ze_L9, ze_L10, ze_L15, ze_L16, ze_L24, ze_L40, ze_L48, ze_L63, ze_L64, ze_L127, ze_L255, ze_L400, ze_L1024, ze_L2047, ze_L65535, ze_gIs, ze_gIn, ze_gJs, ze_gJn, zd_gI2, zd_gJ1, ze_sII]
  · exact zg_ok_app K1.1 (by omega) (by omega) (by rw [t1, srt1]; exact h5) (by rw [t1, of1]; exact K1.2)
  · have e := gr.2.1 i hi
    exact zm_inv_app K inv.1 (i := i) (by omega) (by rw [e, hG]) (by rw [e, hG]) (by rw [e, hG, l1]) v
  · exact zd_fC_I (zd_fC_J (zd_fC_trans fc (zd_fC_mono c1 (by have := E.2.1; omega))) v (by omega)) _ (by omega)
  · exact zd_fR_J (zd_fR_trans fr (zd_fR_trans (zd_fR_I (zd_fR_refl _ k0) _ (by omega)) (zd_fR_mono r1 (by have := E.2.1; omega)))) v (by omega)
  · intro j hj em
    rw [zg_app_ln]
    by_cases c : (G1.1.2 j).2.2.1 = t
    · rw [if_pos c, l1]
      have e := gr.2.1 i hi
      have hji : j = i := by
        have h5 := inv.1.2.2.2.2
        have et : (G1.1.2 i).2.2.1 = t := by rw [e, hG]
        rcases Nat.lt_trichotomy i j with d | d | d
        · exact absurd (et.trans c.symm) (h5 i j d hj)
        · exact d.symm
        · exact absurd (c.trans et.symm) (h5 j i d (by omega))
      rw [hji, e, hG]
    · rw [if_neg c]
      refine zm_strict_new inv.1 I0 inv.2 hj em (fun hj2 => st0 j hj2 (fun z => ?_)) hM
      rw [z, gr.2.1 i hi, hG] at c
      exact c rfl
  · exact zm_Ph_new hO inv.2
