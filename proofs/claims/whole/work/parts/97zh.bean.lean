/-! by a method of beans -/
theorem zm_fC_of {n : Nat} {s s1 : zx_H} (e : ∀ F, F ≠ 17 → F ≠ 19 → F ≠ 20 → F ≠ 21 → F ≠ 22 → s1.1 F = s.1 F) (e2 : s1.2 = s.2) : zd_fC n s s1 := by
  refine ⟨fun F h1 h2 => ⟨e F (by omega) (by omega) (by omega) (by omega) (by omega), congrFun e2 F⟩, fun o _ => ?_, fun j _ => by rw [e2]⟩
  rw [e 8 (by decide) (by decide) (by decide) (by decide) (by decide), e 9 (by decide) (by decide) (by decide) (by decide) (by decide)]
  exact ⟨rfl, rfl⟩
theorem zm_fR_of {n : Nat} {s s1 : zx_H} (e : ∀ F, F ≠ 24 → F ≠ 47 → F ≠ 48 → F ≠ 49 → F ≠ 50 → s1.1 F = s.1 F) (e2 : s1.2 = s.2) (e3 : ∀ j, j ≠ 32 → s1.1 24 0 j = s.1 24 0 j) : zd_fR n s s1 := by
  refine ⟨fun F h1 h2 => ⟨e F (by omega) (by omega) (by omega) (by omega) (by omega), congrFun e2 F⟩, fun j hj => e3 j (by unfold zd_st at hj; omega), fun o _ => ?_, fun j _ => by rw [e2], fun j _ => ?_⟩
  · rw [e 40 (by decide) (by decide) (by decide) (by decide) (by decide), e 41 (by decide) (by decide) (by decide) (by decide) (by decide)]
    exact ⟨rfl, rfl⟩
  · rw [e 43 (by decide) (by decide) (by decide) (by decide) (by decide)]
theorem zm_obC_of {n : Nat} {h s s1 : zx_H} {t c : Nat} {f : Nat → Int64} (hn : n < 400) (e : zg_I n h t f c s) (e1 : ∀ F, F ≠ 17 → F ≠ 19 → F ≠ 20 → F ≠ 21 → F ≠ 22 → F ≠ 18 → s1.1 F = s.1 F) (e2 : s1.2 = s.2) : zm_obC n (some (t, c, f)) s1 := by
  obtain ⟨_, a, b, c, d⟩ := e
  have q := fun F (h : F = 7 ∨ F = 8 ∨ F = 9) => e1 F (by omega) (by omega) (by omega) (by omega) (by omega) (by omega)
  refine ⟨hn, ?_, ?_, ?_, fun i hi => ?_⟩
  · rw [q 7 (by decide)]; exact a
  · rw [q 8 (by decide)]; exact b
  · rw [q 9 (by decide)]; exact c
  · rw [e2]; exact d i hi
theorem zm_obR_of {n : Nat} {h s s1 : zx_H} {t c : Nat} {f g : Nat → Int64} (hn : n < 400) (ht : t ≠ 14) (hc : c ≤ 16) (e : zg_J n h t c g s) (fg : ∀ i, i < c → g i = f i) (e1 : ∀ F, F ≠ 24 → F ≠ 44 → F ≠ 45 → F ≠ 46 → F ≠ 47 → F ≠ 48 → F ≠ 49 → F ≠ 50 → s1.1 F = s.1 F) (e2 : s1.2 = s.2) (e3 : s1.1 24 0 23 = s.1 24 0 23) : zm_obR n (some (t, c, f)) s1 := by
  obtain ⟨_, a, b, c, d⟩ := e
  have q := fun F (h : F = 40 ∨ F = 41) => e1 F (by omega) (by omega) (by omega) (by omega) (by omega) (by omega) (by omega) (by omega)
  refine ⟨hn, e3.trans a, ?_, ?_, fun _ i hi => ?_, fun z => absurd z ht⟩
  · rw [q 40 (by decide)]; exact b
  · rw [q 41 (by decide)]; exact c
  · rw [e2, d i (by omega)]; exact fg i hi
/-- the reference looks for what is known -/
theorem zm_R_seek {G : zm_G} {k : zx_H} (R : zm_RP G k) (hq : G.2.1 < 400) {m o : Nat} (hm : m < 16) (ho : o < 400) (hG : ∀ j, j < G.2.1 → (G.2.2 j).1 < 16 ∧ (G.2.2 j).2.1 < 400 ∧ (G.2.2 j).2.2 < 400) : zs_Ref_mapped_L118 (nI m) (lN o) (nI 0) k = (match zd_first (zm_fc G m o) G.2.1 with | some j => some (lN (G.2.2 j).2.2, k) | none => zs_Ref_mapped_L118_body (fun _ _ _ _ => none) (nI m) (lN o) (nI G.2.1) k) := by
  obtain ⟨_, _, _, p4, p5, _⟩ := R
  have key := zd_search (fun F p => zx_loop (fun _ _ _ _ => none) zs_Ref_mapped_L118_body F (nI m) (lN o) (nI p) k) (zm_fc G m o) (fun j => some (lN (G.2.2 j).2.2, k)) (zs_Ref_mapped_L118_body (fun _ _ _ _ => none) (nI m) (lN o) (nI G.2.1) k) G.2.1
    (fun F p hp c => by
      obtain ⟨q1, q2, q3⟩ := p5 p hp
      obtain ⟨g1, g2, g3⟩ := hG p hp
      unfold zm_fc at c
      simp only [Bool.and_eq_true, decide_eq_true_eq] at c
      show zs_Ref_mapped_L118_body _ (nI m) (lN o) (nI p) k = _
      simp (disch := omega) only [zs_Ref_mapped_L118_body, p4, q1, q2, q3, c.1, c.2, ↓zd_bnd, ↓zy_bm, if_true, if_false, ite_true, ite_false, ↓reduceIte, Bool.false_eq_true, Bool.true_eq_false, eq_self, true_and, and_true, false_and, and_false, reduceCtorEq, decide_true, decide_false, not_true_eq_false, not_false_eq_true, ze_ltT, ze_ltF, ze_leT, ze_leF, ze_eqT, ze_eqF, ze_mlt, ze_ltm, ze_mle, ze_lem, ze_meq, ze_eqm, ze_mm, ze_mltm, ze_inT, ze_inF, ze_inM, ze_cl, ze_fin, ze_decT, ze_decF, Nat.reduceSub, Nat.reduceMul, nI_add, Nat.add_sub_cancel, Nat.add_assoc, Nat.reduceAdd, ze_r8, ze_r24, ze_r40, ze_r400, ze_l8, ze_l16, ze_l24, ze_l40, ze_sub, ze_am1, ze_es, ze_en, ze_i64, ze_m64, ze_64i, ze_64m, ze_LltT, ze_LltF, ze_LleT, ze_LleF, ze_LeqT, ze_LeqF, ze_Lmlt, ze_Lltm, ze_Lmle, ze_Llem, ze_Lmeq, ze_Leqm, ze_Lmm, lN_add, ze_ch, ze_chd, ze_bt, ze_bf, ze_n0, ze_n1, ze_n2, ze_n3, ze_n4, ze_n5, ze_n6, ze_n7, ze_n8, ze_n9, ze_n10, ze_n11, ze_n12, ze_n13, ze_n14, ze_n15, ze_n16, ze_n17, ze_n18, ze_n19, ze_n20, ze_n21, ze_n22, ze_n23, ze_n24, ze_n25, ze_n26, ze_n27, ze_n28, ze_n29, ze_n30, ze_n31, ze_n32, ze_n33, ze_n34, ze_n35, ze_n36, ze_n37, ze_n38, ze_n39, ze_n40, ze_n48, ze_n63, ze_n64, ze_n65, ze_n80, ze_n100, ze_n128, ze_n200, ze_n255, ze_n300, ze_n320, ze_n384, ze_n400, ze_n512, ze_n1023, ze_n1600, ze_n6400, ze_n9600, ze_n32768, ze_n65535, ze_n65536, ze_n802, ze_n8191, ze_L0, ze_L1, ze_L2, ze_L3, ze_L4, ze_L5, ze_L6, ze_L7, ze_L8, ze_L9, ze_L10, ze_L15, ze_L16, ze_L24, ze_L40, ze_L48, ze_L63, ze_L64, ze_L127, ze_L255, ze_L400, ze_L1024, ze_L2047, ze_L65535])
    (fun F p hp c => by
      obtain ⟨q1, q2, q3⟩ := p5 p hp
      obtain ⟨g1, g2, g3⟩ := hG p hp
      unfold zm_fc at c
      simp only [Bool.and_eq_false_iff, decide_eq_false_iff_not] at c
      show zs_Ref_mapped_L118_body _ (nI m) (lN o) (nI p) k = zx_loop (fun _ _ _ _ => none) zs_Ref_mapped_L118_body F (nI m) (lN o) (nI (p + 1)) k
      by_cases c1 : (G.2.2 p).1 = m
      · have c2 : ¬ (G.2.2 p).2.1 = o := c.resolve_left (fun z => z c1)
        simp (disch := omega) only [zs_Ref_mapped_L118_body, zs_Ref_mapped_J160, p4, q1, q2, q3, c1, c2, ↓zd_bnd, ↓zy_bm, if_true, if_false, ite_true, ite_false, ↓reduceIte, Bool.false_eq_true, Bool.true_eq_false, eq_self, true_and, and_true, false_and, and_false, reduceCtorEq, decide_true, decide_false, not_true_eq_false, not_false_eq_true, ze_ltT, ze_ltF, ze_leT, ze_leF, ze_eqT, ze_eqF, ze_mlt, ze_ltm, ze_mle, ze_lem, ze_meq, ze_eqm, ze_mm, ze_mltm, ze_inT, ze_inF, ze_inM, ze_cl, ze_fin, ze_decT, ze_decF, Nat.reduceSub, Nat.reduceMul, nI_add, Nat.add_sub_cancel, Nat.add_assoc, Nat.reduceAdd, ze_r8, ze_r24, ze_r40, ze_r400, ze_l8, ze_l16, ze_l24, ze_l40, ze_sub, ze_am1, ze_es, ze_en, ze_i64, ze_m64, ze_64i, ze_64m, ze_LltT, ze_LltF, ze_LleT, ze_LleF, ze_LeqT, ze_LeqF, ze_Lmlt, ze_Lltm, ze_Lmle, ze_Llem, ze_Lmeq, ze_Leqm, ze_Lmm, lN_add, ze_ch, ze_chd, ze_bt, ze_bf, ze_n0, ze_n1, ze_n2, ze_n3, ze_n4, ze_n5, ze_n6, ze_n7, ze_n8, ze_n9, ze_n10, ze_n11, ze_n12, ze_n13, ze_n14, ze_n15, ze_n16, ze_n17, ze_n18, ze_n19, ze_n20, ze_n21, ze_n22, ze_n23, ze_n24, ze_n25, ze_n26, ze_n27, ze_n28, ze_n29, ze_n30, ze_n31, ze_n32, ze_n33, ze_n34, ze_n35, ze_n36, ze_n37, ze_n38, ze_n39, ze_n40, ze_n48, ze_n63, ze_n64, ze_n65, ze_n80, ze_n100, ze_n128, ze_n200, ze_n255, ze_n300, ze_n320, ze_n384, ze_n400, ze_n512, ze_n1023, ze_n1600, ze_n6400, ze_n9600, ze_n32768, ze_n65535, ze_n65536, ze_n802, ze_n8191, ze_L0, ze_L1, ze_L2, ze_L3, ze_L4, ze_L5, ze_L6, ze_L7, ze_L8, ze_L9, ze_L10, ze_L15, ze_L16, ze_L24, ze_L40, ze_L48, ze_L63, ze_L64, ze_L127, ze_L255, ze_L400, ze_L1024, ze_L2047, ze_L65535]
        rfl
      · simp (disch := omega) only [zs_Ref_mapped_L118_body, zs_Ref_mapped_J160, p4, q1, q2, q3, c1, ↓zd_bnd, ↓zy_bm, if_true, if_false, ite_true, ite_false, ↓reduceIte, Bool.false_eq_true, Bool.true_eq_false, eq_self, true_and, and_true, false_and, and_false, reduceCtorEq, decide_true, decide_false, not_true_eq_false, not_false_eq_true, ze_ltT, ze_ltF, ze_leT, ze_leF, ze_eqT, ze_eqF, ze_mlt, ze_ltm, ze_mle, ze_lem, ze_meq, ze_eqm, ze_mm, ze_mltm, ze_inT, ze_inF, ze_inM, ze_cl, ze_fin, ze_decT, ze_decF, Nat.reduceSub, Nat.reduceMul, nI_add, Nat.add_sub_cancel, Nat.add_assoc, Nat.reduceAdd, ze_r8, ze_r24, ze_r40, ze_r400, ze_l8, ze_l16, ze_l24, ze_l40, ze_sub, ze_am1, ze_es, ze_en, ze_i64, ze_m64, ze_64i, ze_64m, ze_LltT, ze_LltF, ze_LleT, ze_LleF, ze_LeqT, ze_LeqF, ze_Lmlt, ze_Lltm, ze_Lmle, ze_Llem, ze_Lmeq, ze_Leqm, ze_Lmm, lN_add, ze_ch, ze_chd, ze_bt, ze_bf, ze_n0, ze_n1, ze_n2, ze_n3, ze_n4, ze_n5, ze_n6, ze_n7, ze_n8, ze_n9, ze_n10, ze_n11, ze_n12, ze_n13, ze_n14, ze_n15, ze_n16, ze_n17, ze_n18, ze_n19, ze_n20, ze_n21, ze_n22, ze_n23, ze_n24, ze_n25, ze_n26, ze_n27, ze_n28, ze_n29, ze_n30, ze_n31, ze_n32, ze_n33, ze_n34, ze_n35, ze_n36, ze_n37, ze_n38, ze_n39, ze_n40, ze_n48, ze_n63, ze_n64, ze_n65, ze_n80, ze_n100, ze_n128, ze_n200, ze_n255, ze_n300, ze_n320, ze_n384, ze_n400, ze_n512, ze_n1023, ze_n1600, ze_n6400, ze_n9600, ze_n32768, ze_n65535, ze_n65536, ze_n802, ze_n8191, ze_L0, ze_L1, ze_L2, ze_L3, ze_L4, ze_L5, ze_L6, ze_L7, ze_L8, ze_L9, ze_L10, ze_L15, ze_L16, ze_L24, ze_L40, ze_L48, ze_L63, ze_L64, ze_L127, ze_L255, ze_L400, ze_L1024, ze_L2047, ze_L65535]
        rfl)
    (fun F => by
      show zs_Ref_mapped_L118_body _ (nI m) (lN o) (nI G.2.1) k = zs_Ref_mapped_L118_body _ (nI m) (lN o) (nI G.2.1) k
      have le : (nI G.2.1 ≤ nI G.2.1) = True := by simp (disch := omega) only [↓zd_bnd, ↓zy_bm, if_true, if_false, ite_true, ite_false, ↓reduceIte, Bool.false_eq_true, Bool.true_eq_false, eq_self, true_and, and_true, false_and, and_false, reduceCtorEq, decide_true, decide_false, not_true_eq_false, not_false_eq_true, ze_ltT, ze_ltF, ze_leT, ze_leF, ze_eqT, ze_eqF, ze_mlt, ze_ltm, ze_mle, ze_lem, ze_meq, ze_eqm, ze_mm, ze_mltm, ze_inT, ze_inF, ze_inM, ze_cl, ze_fin, ze_decT, ze_decF, Nat.reduceSub, Nat.reduceMul, nI_add, Nat.add_sub_cancel, Nat.add_assoc, Nat.reduceAdd, ze_r8, ze_r24, ze_r40, ze_r400, ze_l8, ze_l16, ze_l24, ze_l40, ze_sub, ze_am1, ze_es, ze_en, ze_i64, ze_m64, ze_64i, ze_64m, ze_LltT, ze_LltF, ze_LleT, ze_LleF, ze_LeqT, ze_LeqF, ze_Lmlt, ze_Lltm, ze_Lmle, ze_Llem, ze_Lmeq, ze_Leqm, ze_Lmm, lN_add, ze_ch, ze_chd, ze_bt, ze_bf, ze_n0, ze_n1, ze_n2, ze_n3, ze_n4, ze_n5, ze_n6, ze_n7, ze_n8, ze_n9, ze_n10, ze_n11, ze_n12, ze_n13, ze_n14, ze_n15, ze_n16, ze_n17, ze_n18, ze_n19, ze_n20, ze_n21, ze_n22, ze_n23, ze_n24, ze_n25, ze_n26, ze_n27, ze_n28, ze_n29, ze_n30, ze_n31, ze_n32, ze_n33, ze_n34, ze_n35, ze_n36, ze_n37, ze_n38, ze_n39, ze_n40, ze_n48, ze_n63, ze_n64, ze_n65, ze_n80, ze_n100, ze_n128, ze_n200, ze_n255, ze_n300, ze_n320, ze_n384, ze_n400, ze_n512, ze_n1023, ze_n1600, ze_n6400, ze_n9600, ze_n32768, ze_n65535, ze_n65536, ze_n802, ze_n8191, ze_L0, ze_L1, ze_L2, ze_L3, ze_L4, ze_L5, ze_L6, ze_L7, ze_L8, ze_L9, ze_L10, ze_L15, ze_L16, ze_L24, ze_L40, ze_L48, ze_L63, ze_L64, ze_L127, ze_L255, ze_L400, ze_L1024, ze_L2047, ze_L65535]
      unfold zs_Ref_mapped_L118_body
      rw [p4]
      simp only [le, if_true])
    zx_fuel (by unfold zx_fuel; omega)
  exact key
theorem zm_beanM {A B : zd_A} {hc hr : zx_H} (HC : zd_C A hc) (HR : zd_R A hr) (K : zd_ok A) (E : zm_ext A B) {s k : zx_H} {n : Nat} (hn : n = zd_O B) (X : zm_C A hc s n) (Y : zm_R A hr k n) {G : zm_G} (P : zm_CP G s) (R : zm_RP G k) (I : zm_inv A hc B G) {m : Nat} (hm : m < zd_M A) (PM : zp_PM A hc m) (h4 : zd_srt A (zd_mt A m) = 4) {v : Int64} (hv : zd_val A (zd_mf A m) v) : ∃ z : zm_Z, zm_CZ n s z (zs_Mapper_byMethod (nI m) v s) ∧ zm_RZ A hr n k z (zs_Ref_mapped (nI m) v k) ∧ zm_fitZ B (zd_mt A m) z ∧ zm_invZ A hc B G z := by
  have hM := zd_ok_M K
  have hT := zd_ok_T K
  have hO := zd_ok_O K
  have hme := zd_ok_m K m hm
  have h3 : zd_srt A (zd_mf A m) = 4 := by omega
  have ht14 : zd_mt A m ≠ 14 := fun z => by have := zd_ok_s2 K; rw [← z] at this; omega
  have ht7 : 7 ≤ zd_mt A m := by
    by_cases c : 7 ≤ zd_mt A m
    · exact c
    · have := zd_ok_s0 K (zd_mt A m) (by omega); omega
  have hz := zd_ok_sz K (zd_mt A m) (by omega)
  have c54 := (X.1.1 54 (by decide) (by decide)).1
  have c30 := (Y.1.1 30 (by decide) (by decide)).1
  have c31 := (Y.1.1 31 (by decide) (by decide)).1
  have c25 := (Y.1.1 25 (by decide) (by decide)).1
  have c35 := (Y.1.1 35 (by decide) (by decide)).2
  have hh := zm_C_hasMethod HC K X hm
  have ib := zm_C_isBean HC K X hme.2.1
  have mk := PM.1
  have lat := zm_R_latest HR K Y hm (k := 8) (by omega)
  have z1 : zx_b true = nI 1 := rfl
  have z0 : zx_b false = nI 0 := rfl
  have hrc := zd_ok_rc K m (by omega)
  have cf := fun hn2 : n < 400 => zm_C_createBean HC K X hn2 hme.2.1 h4
  have rf := fun hn2 : n < 400 => zm_R_object HR K Y hn2 hme.2.1
  have cnt : zg_cnt A (zd_mt A m) = zd_sz A (zd_mt A m) := if_pos h4
  have val0 : ∀ i, i < zd_sz A (zd_mt A m) → zg_val0 A (zd_mt A m) i = zg_emp (zd_pt A (zd_mt A m) i) := fun i hi => if_pos ⟨h4, hi⟩
  have n4 : (nI 4 = nI 3) = False := by decide
  have fit : zm_fitO B (zd_mt A m) (zd_mt A m) (zd_sz A (zd_mt A m)) (fun i => zg_emp (zd_pt A (zd_mt A m) i)) := by
    have e2 : zd_srt B = zd_srt A := by funext i; exact congrFun (congrFun (E.1.1 2 (by decide)) i) 0
    have e3 : zd_sz B = zd_sz A := by funext i; exact congrFun (congrFun (E.1.1 3 (by decide)) i) 0
    have e4 : zd_pt B = zd_pt A := by funext i j; exact congrFun (congrFun (E.1.1 5 (by decide)) i) j
    unfold zm_fitO
    rw [e2, e3, e4]
    exact ⟨rfl, ht7, by omega, fun z => by omega, fun z => by omega, fun _ => ⟨rfl, fun _ _ => rfl⟩, fun z => by omega⟩
  have hf7 : 7 ≤ zd_mf A m := by
    by_cases c : 7 ≤ zd_mf A m
    · exact c
    · have := zd_ok_s0 K (zd_mf A m) (by omega); omega
  rcases (zn_valO K hf7 v).mp hv with e | ⟨e, _⟩ | ⟨_, o, ho, hto, e⟩
  · subst e
    -- a null
    by_cases mk1 : zp_mkn A m = true
    · rw [mk1] at mk
      have q54 : s.1 54 m 7 = nI 1 := by rw [c54]; exact mk
      obtain ⟨r, er, ew⟩ : ∃ r, zp_lr A m 8 = some r ∧ zd_wh A m r = lN 1 := by
        unfold zp_mkn at mk1
        split at mk1
        · next r hr => exact ⟨r, hr, of_decide_eq_true mk1⟩
        · cases mk1
      have hr : r < zd_rc A m := by unfold zp_lr at er; exact (zd_last_some er).1
      rw [er] at lat
      have lat : zs_Ref_latest (nI m) (nI 8) k = some (nI (24 * m + r)) := lat
      have w35 : k.2 35 0 (24 * m + r) = lN 1 := by rw [c35, zd_R_wh HR m r hm hr]; exact ew
      by_cases hn2 : n < 400
      · obtain ⟨s1, e1, e2⟩ := cf hn2
        obtain ⟨k1, g1, g2, _⟩ := rf hn2
        rw [cnt] at g2
        refine ⟨some (lN n, some (zd_mt A m, zd_sz A (zd_mt A m), fun i => zg_emp (zd_pt A (zd_mt A m) i)), G), ⟨s1, ?_, zd_gC_f e2.1, zm_CP_gC e2.1 P, zm_obC_of hn2 e2 (fun _ _ _ _ _ _ _ => rfl) rfl⟩, ⟨k1, ?_, zd_gR_f g2.1, zm_RP_gR g2.1 R, zm_obR_of hn2 ht14 (by omega) g2 val0 (fun _ _ _ _ _ _ _ _ _ => rfl) rfl rfl⟩, ⟨by rw [hn], fit⟩, zm_inv_new I _, Or.inl rfl⟩
        · simp (disch := omega) only [zs_Mapper_byMethod, zs_Mapper_beanOf_J63, zs_Mapper_beanOf_J19, zs_Mapper_beanOf, hh, c54, zd_C_mt HC, ib, h4, q54, e1, ↓zd_bnd, ↓zy_bm, if_true, if_false, ite_true, ite_false, ↓reduceIte, Bool.false_eq_true, Bool.true_eq_false, eq_self, true_and, and_true, false_and, and_false, reduceCtorEq, decide_true, decide_false, not_true_eq_false, not_false_eq_true, ze_ltT, ze_ltF, ze_leT, ze_leF, ze_eqT, ze_eqF, ze_mlt, ze_ltm, ze_mle, ze_lem, ze_meq, ze_eqm, ze_mm, ze_mltm, ze_inT, ze_inF, ze_inM, ze_cl, ze_fin, ze_decT, ze_decF, Nat.reduceSub, Nat.reduceMul, nI_add, Nat.add_sub_cancel, Nat.add_assoc, Nat.reduceAdd, ze_r8, ze_r24, ze_r40, ze_r400, ze_l8, ze_l16, ze_l24, ze_l40, ze_sub, ze_am1, ze_es, ze_en, ze_i64, ze_m64, ze_64i, ze_64m, ze_LltT, ze_LltF, ze_LleT, ze_LleF, ze_LeqT, ze_LeqF, ze_Lmlt, ze_Lltm, ze_Lmle, ze_Llem, ze_Lmeq, ze_Leqm, ze_Lmm, lN_add, ze_ch, ze_chd, ze_bt, ze_bf, ze_n0, ze_n1, ze_n2, ze_n3, ze_n4, ze_n5, ze_n6, ze_n7, ze_n8, ze_n9, ze_n10, ze_n11, ze_n12, ze_n13, ze_n14, ze_n15, ze_n16, ze_n17, ze_n18, ze_n19, ze_n20, ze_n21, ze_n22, ze_n23, ze_n24, ze_n25, ze_n26, ze_n27, ze_n28, ze_n29, ze_n30, ze_n31, ze_n32, ze_n33, ze_n34, ze_n35, ze_n36, ze_n37, ze_n38, ze_n39, ze_n40, ze_n48, ze_n63, ze_n64, ze_n65, ze_n80, ze_n100, ze_n128, ze_n200, ze_n255, ze_n300, ze_n320, ze_n384, ze_n400, ze_n512, ze_n1023, ze_n1600, ze_n6400, ze_n9600, ze_n32768, ze_n65535, ze_n65536, ze_n802, ze_n8191, ze_L0, ze_L1, ze_L2, ze_L3, ze_L4, ze_L5, ze_L6, ze_L7, ze_L8, ze_L9, ze_L10, ze_L15, ze_L16, ze_L24, ze_L40, ze_L48, ze_L63, ze_L64, ze_L127, ze_L255, ze_L400, ze_L1024, ze_L2047, ze_L65535]
        · simp (disch := omega) only [zs_Ref_mapped, c30, c31, c25, zd_R_mf HR, zd_R_mt HR, zd_R_srt HR, h3, lat, w35, g1, ↓zd_bnd, ↓zy_bm, if_true, if_false, ite_true, ite_false, ↓reduceIte, Bool.false_eq_true, Bool.true_eq_false, eq_self, true_and, and_true, false_and, and_false, reduceCtorEq, decide_true, decide_false, not_true_eq_false, not_false_eq_true, ze_ltT, ze_ltF, ze_leT, ze_leF, ze_eqT, ze_eqF, ze_mlt, ze_ltm, ze_mle, ze_lem, ze_meq, ze_eqm, ze_mm, ze_mltm, ze_inT, ze_inF, ze_inM, ze_cl, ze_fin, ze_decT, ze_decF, Nat.reduceSub, Nat.reduceMul, nI_add, Nat.add_sub_cancel, Nat.add_assoc, Nat.reduceAdd, ze_r8, ze_r24, ze_r40, ze_r400, ze_l8, ze_l16, ze_l24, ze_l40, ze_sub, ze_am1, ze_es, ze_en, ze_i64, ze_m64, ze_64i, ze_64m, ze_LltT, ze_LltF, ze_LleT, ze_LleF, ze_LeqT, ze_LeqF, ze_Lmlt, ze_Lltm, ze_Lmle, ze_Llem, ze_Lmeq, ze_Leqm, ze_Lmm, lN_add, ze_ch, ze_chd, ze_bt, ze_bf, ze_n0, ze_n1, ze_n2, ze_n3, ze_n4, ze_n5, ze_n6, ze_n7, ze_n8, ze_n9, ze_n10, ze_n11, ze_n12, ze_n13, ze_n14, ze_n15, ze_n16, ze_n17, ze_n18, ze_n19, ze_n20, ze_n21, ze_n22, ze_n23, ze_n24, ze_n25, ze_n26, ze_n27, ze_n28, ze_n29, ze_n30, ze_n31, ze_n32, ze_n33, ze_n34, ze_n35, ze_n36, ze_n37, ze_n38, ze_n39, ze_n40, ze_n48, ze_n63, ze_n64, ze_n65, ze_n80, ze_n100, ze_n128, ze_n200, ze_n255, ze_n300, ze_n320, ze_n384, ze_n400, ze_n512, ze_n1023, ze_n1600, ze_n6400, ze_n9600, ze_n32768, ze_n65535, ze_n65536, ze_n802, ze_n8191, ze_L0, ze_L1, ze_L2, ze_L3, ze_L4, ze_L5, ze_L6, ze_L7, ze_L8, ze_L9, ze_L10, ze_L15, ze_L16, ze_L24, ze_L40, ze_L48, ze_L63, ze_L64, ze_L127, ze_L255, ze_L400, ze_L1024, ze_L2047, ze_L65535]
      · have hn3 : n = 400 := by have := X.2.2.2; omega
        have xO := Y.2.1
        rw [hn3] at xO
        refine ⟨none, ⟨-lN 1, zx_sI s 23 0 2 (nI 1), ?_, zd_fC_I (zd_fC_refl n s) _ (by omega), by simp (disch := omega) only [ze_gIs, ze_gIn, ze_gJs, ze_gJn, zd_gI2, zd_gJ1, ze_sII]⟩, ⟨-lN 1, zx_sI k 24 0 37 (nI 1), ?_, (zm_Rf Y).1, by simp (disch := omega) only [ze_gIs, ze_gIn, ze_gJs, ze_gJn, zd_gI2, zd_gJ1, ze_sII]⟩, trivial, trivial⟩
        · simp (disch := omega) only [zs_Mapper_byMethod, zs_Mapper_beanOf_J63, zs_Mapper_beanOf_J19, zs_Mapper_beanOf, hh, c54, zd_C_mt HC, ib, h4, q54, zm_C_createBean0 HC K X hn3, ↓zd_bnd, ↓zy_bm, if_true, if_false, ite_true, ite_false, ↓reduceIte, Bool.false_eq_true, Bool.true_eq_false, eq_self, true_and, and_true, false_and, and_false, reduceCtorEq, decide_true, decide_false, not_true_eq_false, not_false_eq_true, ze_ltT, ze_ltF, ze_leT, ze_leF, ze_eqT, ze_eqF, ze_mlt, ze_ltm, ze_mle, ze_lem, ze_meq, ze_eqm, ze_mm, ze_mltm, ze_inT, ze_inF, ze_inM, ze_cl, ze_fin, ze_decT, ze_decF, Nat.reduceSub, Nat.reduceMul, nI_add, Nat.add_sub_cancel, Nat.add_assoc, Nat.reduceAdd, ze_r8, ze_r24, ze_r40, ze_r400, ze_l8, ze_l16, ze_l24, ze_l40, ze_sub, ze_am1, ze_es, ze_en, ze_i64, ze_m64, ze_64i, ze_64m, ze_LltT, ze_LltF, ze_LleT, ze_LleF, ze_LeqT, ze_LeqF, ze_Lmlt, ze_Lltm, ze_Lmle, ze_Llem, ze_Lmeq, ze_Leqm, ze_Lmm, lN_add, ze_ch, ze_chd, ze_bt, ze_bf, ze_n0, ze_n1, ze_n2, ze_n3, ze_n4, ze_n5, ze_n6, ze_n7, ze_n8, ze_n9, ze_n10, ze_n11, ze_n12, ze_n13, ze_n14, ze_n15, ze_n16, ze_n17, ze_n18, ze_n19, ze_n20, ze_n21, ze_n22, ze_n23, ze_n24, ze_n25, ze_n26, ze_n27, ze_n28, ze_n29, ze_n30, ze_n31, ze_n32, ze_n33, ze_n34, ze_n35, ze_n36, ze_n37, ze_n38, ze_n39, ze_n40, ze_n48, ze_n63, ze_n64, ze_n65, ze_n80, ze_n100, ze_n128, ze_n200, ze_n255, ze_n300, ze_n320, ze_n384, ze_n400, ze_n512, ze_n1023, ze_n1600, ze_n6400, ze_n9600, ze_n32768, ze_n65535, ze_n65536, ze_n802, ze_n8191, ze_L0, ze_L1, ze_L2, ze_L3, ze_L4, ze_L5, ze_L6, ze_L7, ze_L8, ze_L9, ze_L10, ze_L15, ze_L16, ze_L24, ze_L40, ze_L48, ze_L63, ze_L64, ze_L127, ze_L255, ze_L400, ze_L1024, ze_L2047, ze_L65535]
        · simp (disch := omega) only [zs_Ref_mapped, c30, c31, c25, zd_R_mf HR, zd_R_mt HR, zd_R_srt HR, h3, lat, w35, zm_R_object0 xO, ↓zd_bnd, ↓zy_bm, if_true, if_false, ite_true, ite_false, ↓reduceIte, Bool.false_eq_true, Bool.true_eq_false, eq_self, true_and, and_true, false_and, and_false, reduceCtorEq, decide_true, decide_false, not_true_eq_false, not_false_eq_true, ze_ltT, ze_ltF, ze_leT, ze_leF, ze_eqT, ze_eqF, ze_mlt, ze_ltm, ze_mle, ze_lem, ze_meq, ze_eqm, ze_mm, ze_mltm, ze_inT, ze_inF, ze_inM, ze_cl, ze_fin, ze_decT, ze_decF, Nat.reduceSub, Nat.reduceMul, nI_add, Nat.add_sub_cancel, Nat.add_assoc, Nat.reduceAdd, ze_r8, ze_r24, ze_r40, ze_r400, ze_l8, ze_l16, ze_l24, ze_l40, ze_sub, ze_am1, ze_es, ze_en, ze_i64, ze_m64, ze_64i, ze_64m, ze_LltT, ze_LltF, ze_LleT, ze_LleF, ze_LeqT, ze_LeqF, ze_Lmlt, ze_Lltm, ze_Lmle, ze_Llem, ze_Lmeq, ze_Leqm, ze_Lmm, lN_add, ze_ch, ze_chd, ze_bt, ze_bf, ze_n0, ze_n1, ze_n2, ze_n3, ze_n4, ze_n5, ze_n6, ze_n7, ze_n8, ze_n9, ze_n10, ze_n11, ze_n12, ze_n13, ze_n14, ze_n15, ze_n16, ze_n17, ze_n18, ze_n19, ze_n20, ze_n21, ze_n22, ze_n23, ze_n24, ze_n25, ze_n26, ze_n27, ze_n28, ze_n29, ze_n30, ze_n31, ze_n32, ze_n33, ze_n34, ze_n35, ze_n36, ze_n37, ze_n38, ze_n39, ze_n40, ze_n48, ze_n63, ze_n64, ze_n65, ze_n80, ze_n100, ze_n128, ze_n200, ze_n255, ze_n300, ze_n320, ze_n384, ze_n400, ze_n512, ze_n1023, ze_n1600, ze_n6400, ze_n9600, ze_n32768, ze_n65535, ze_n65536, ze_n802, ze_n8191, ze_L0, ze_L1, ze_L2, ze_L3, ze_L4, ze_L5, ze_L6, ze_L7, ze_L8, ze_L9, ze_L10, ze_L15, ze_L16, ze_L24, ze_L40, ze_L48, ze_L63, ze_L64, ze_L127, ze_L255, ze_L400, ze_L1024, ze_L2047, ze_L65535]
    · have mk2 : zp_mkn A m = false := by simpa using mk1
      rw [mk2] at mk
      have q54 : s.1 54 m 7 = nI 0 := by rw [c54]; exact mk
      refine ⟨some (-lN 1, none, G), ⟨s, ?_, zd_fC_refl _ s, P, X.2.1⟩, ⟨k, ?_, zd_fR_refl _ k, R, Y.2.1⟩, ?_, I, Or.inl rfl⟩
      · simp (disch := omega) only [zs_Mapper_byMethod, zs_Mapper_beanOf_J63, zs_Mapper_beanOf_J19, zs_Mapper_beanOf, hh, c54, zd_C_mt HC, ib, h4, q54, ↓zd_bnd, ↓zy_bm, if_true, if_false, ite_true, ite_false, ↓reduceIte, Bool.false_eq_true, Bool.true_eq_false, eq_self, true_and, and_true, false_and, and_false, reduceCtorEq, decide_true, decide_false, not_true_eq_false, not_false_eq_true, ze_ltT, ze_ltF, ze_leT, ze_leF, ze_eqT, ze_eqF, ze_mlt, ze_ltm, ze_mle, ze_lem, ze_meq, ze_eqm, ze_mm, ze_mltm, ze_inT, ze_inF, ze_inM, ze_cl, ze_fin, ze_decT, ze_decF, Nat.reduceSub, Nat.reduceMul, nI_add, Nat.add_sub_cancel, Nat.add_assoc, Nat.reduceAdd, ze_r8, ze_r24, ze_r40, ze_r400, ze_l8, ze_l16, ze_l24, ze_l40, ze_sub, ze_am1, ze_es, ze_en, ze_i64, ze_m64, ze_64i, ze_64m, ze_LltT, ze_LltF, ze_LleT, ze_LleF, ze_LeqT, ze_LeqF, ze_Lmlt, ze_Lltm, ze_Lmle, ze_Llem, ze_Lmeq, ze_Leqm, ze_Lmm, lN_add, ze_ch, ze_chd, ze_bt, ze_bf, ze_n0, ze_n1, ze_n2, ze_n3, ze_n4, ze_n5, ze_n6, ze_n7, ze_n8, ze_n9, ze_n10, ze_n11, ze_n12, ze_n13, ze_n14, ze_n15, ze_n16, ze_n17, ze_n18, ze_n19, ze_n20, ze_n21, ze_n22, ze_n23, ze_n24, ze_n25, ze_n26, ze_n27, ze_n28, ze_n29, ze_n30, ze_n31, ze_n32, ze_n33, ze_n34, ze_n35, ze_n36, ze_n37, ze_n38, ze_n39, ze_n40, ze_n48, ze_n63, ze_n64, ze_n65, ze_n80, ze_n100, ze_n128, ze_n200, ze_n255, ze_n300, ze_n320, ze_n384, ze_n400, ze_n512, ze_n1023, ze_n1600, ze_n6400, ze_n9600, ze_n32768, ze_n65535, ze_n65536, ze_n802, ze_n8191, ze_L0, ze_L1, ze_L2, ze_L3, ze_L4, ze_L5, ze_L6, ze_L7, ze_L8, ze_L9, ze_L10, ze_L15, ze_L16, ze_L24, ze_L40, ze_L48, ze_L63, ze_L64, ze_L127, ze_L255, ze_L400, ze_L1024, ze_L2047, ze_L65535]
      · cases er : zp_lr A m 8 with
        | none =>
          rw [er] at lat
          have lat : zs_Ref_latest (nI m) (nI 8) k = some (-nI 1) := lat
          simp (disch := omega) only [zs_Ref_mapped, zs_Ref_mapped_J111, c30, c31, c25, zd_R_mf HR, zd_R_mt HR, zd_R_srt HR, h3, lat, ↓zd_bnd, ↓zy_bm, if_true, if_false, ite_true, ite_false, ↓reduceIte, Bool.false_eq_true, Bool.true_eq_false, eq_self, true_and, and_true, false_and, and_false, reduceCtorEq, decide_true, decide_false, not_true_eq_false, not_false_eq_true, ze_ltT, ze_ltF, ze_leT, ze_leF, ze_eqT, ze_eqF, ze_mlt, ze_ltm, ze_mle, ze_lem, ze_meq, ze_eqm, ze_mm, ze_mltm, ze_inT, ze_inF, ze_inM, ze_cl, ze_fin, ze_decT, ze_decF, Nat.reduceSub, Nat.reduceMul, nI_add, Nat.add_sub_cancel, Nat.add_assoc, Nat.reduceAdd, ze_r8, ze_r24, ze_r40, ze_r400, ze_l8, ze_l16, ze_l24, ze_l40, ze_sub, ze_am1, ze_es, ze_en, ze_i64, ze_m64, ze_64i, ze_64m, ze_LltT, ze_LltF, ze_LleT, ze_LleF, ze_LeqT, ze_LeqF, ze_Lmlt, ze_Lltm, ze_Lmle, ze_Llem, ze_Lmeq, ze_Leqm, ze_Lmm, lN_add, ze_ch, ze_chd, ze_bt, ze_bf, ze_n0, ze_n1, ze_n2, ze_n3, ze_n4, ze_n5, ze_n6, ze_n7, ze_n8, ze_n9, ze_n10, ze_n11, ze_n12, ze_n13, ze_n14, ze_n15, ze_n16, ze_n17, ze_n18, ze_n19, ze_n20, ze_n21, ze_n22, ze_n23, ze_n24, ze_n25, ze_n26, ze_n27, ze_n28, ze_n29, ze_n30, ze_n31, ze_n32, ze_n33, ze_n34, ze_n35, ze_n36, ze_n37, ze_n38, ze_n39, ze_n40, ze_n48, ze_n63, ze_n64, ze_n65, ze_n80, ze_n100, ze_n128, ze_n200, ze_n255, ze_n300, ze_n320, ze_n384, ze_n400, ze_n512, ze_n1023, ze_n1600, ze_n6400, ze_n9600, ze_n32768, ze_n65535, ze_n65536, ze_n802, ze_n8191, ze_L0, ze_L1, ze_L2, ze_L3, ze_L4, ze_L5, ze_L6, ze_L7, ze_L8, ze_L9, ze_L10, ze_L15, ze_L16, ze_L24, ze_L40, ze_L48, ze_L63, ze_L64, ze_L127, ze_L255, ze_L400, ze_L1024, ze_L2047, ze_L65535]
        | some r =>
          have hr : r < zd_rc A m := by unfold zp_lr at er; exact (zd_last_some er).1
          rw [er] at lat
          have lat : zs_Ref_latest (nI m) (nI 8) k = some (nI (24 * m + r)) := lat
          have w35 : (k.2 35 0 (24 * m + r) = lN 1) = False := by
            rw [c35, zd_R_wh HR m r hm hr]
            unfold zp_mkn at mk2
            rw [er] at mk2
            exact eq_false (of_decide_eq_false mk2)
          simp (disch := omega) only [zs_Ref_mapped, zs_Ref_mapped_J111, c30, c31, c25, zd_R_mf HR, zd_R_mt HR, zd_R_srt HR, h3, lat, w35, ↓zd_bnd, ↓zy_bm, if_true, if_false, ite_true, ite_false, ↓reduceIte, Bool.false_eq_true, Bool.true_eq_false, eq_self, true_and, and_true, false_and, and_false, reduceCtorEq, decide_true, decide_false, not_true_eq_false, not_false_eq_true, ze_ltT, ze_ltF, ze_leT, ze_leF, ze_eqT, ze_eqF, ze_mlt, ze_ltm, ze_mle, ze_lem, ze_meq, ze_eqm, ze_mm, ze_mltm, ze_inT, ze_inF, ze_inM, ze_cl, ze_fin, ze_decT, ze_decF, Nat.reduceSub, Nat.reduceMul, nI_add, Nat.add_sub_cancel, Nat.add_assoc, Nat.reduceAdd, ze_r8, ze_r24, ze_r40, ze_r400, ze_l8, ze_l16, ze_l24, ze_l40, ze_sub, ze_am1, ze_es, ze_en, ze_i64, ze_m64, ze_64i, ze_64m, ze_LltT, ze_LltF, ze_LleT, ze_LleF, ze_LeqT, ze_LeqF, ze_Lmlt, ze_Lltm, ze_Lmle, ze_Llem, ze_Lmeq, ze_Leqm, ze_Lmm, lN_add, ze_ch, ze_chd, ze_bt, ze_bf, ze_n0, ze_n1, ze_n2, ze_n3, ze_n4, ze_n5, ze_n6, ze_n7, ze_n8, ze_n9, ze_n10, ze_n11, ze_n12, ze_n13, ze_n14, ze_n15, ze_n16, ze_n17, ze_n18, ze_n19, ze_n20, ze_n21, ze_n22, ze_n23, ze_n24, ze_n25, ze_n26, ze_n27, ze_n28, ze_n29, ze_n30, ze_n31, ze_n32, ze_n33, ze_n34, ze_n35, ze_n36, ze_n37, ze_n38, ze_n39, ze_n40, ze_n48, ze_n63, ze_n64, ze_n65, ze_n80, ze_n100, ze_n128, ze_n200, ze_n255, ze_n300, ze_n320, ze_n384, ze_n400, ze_n512, ze_n1023, ze_n1600, ze_n6400, ze_n9600, ze_n32768, ze_n65535, ze_n65536, ze_n802, ze_n8191, ze_L0, ze_L1, ze_L2, ze_L3, ze_L4, ze_L5, ze_L6, ze_L7, ze_L8, ze_L9, ze_L10, ze_L15, ze_L16, ze_L24, ze_L40, ze_L48, ze_L63, ze_L64, ze_L127, ze_L255, ze_L400, ze_L1024, ze_L2047, ze_L65535]
      · exact zm_sA_val E ((zn_valO K (by omega) _).mpr (Or.inl rfl))
  · omega
  · subst e
    have ho4 : o < 400 := by omega
    have hg := I.2.2.1
    have seek := zm_R_seek R (by have := I.2.1; have := X.2.2.2; omega) (show m < 16 by omega) ho4 (fun j hj => by
      obtain ⟨a, b, c, _⟩ := hg j hj
      have := X.2.2.2
      exact ⟨by omega, by omega, by omega⟩)
    have tk := P.2.2.2 m o (by omega) ho4
    have mul : nI m * nI 400 = nI (400 * m) := by simp (disch := omega) only [↓zd_bnd, ↓zy_bm, if_true, if_false, ite_true, ite_false, ↓reduceIte, Bool.false_eq_true, Bool.true_eq_false, eq_self, true_and, and_true, false_and, and_false, reduceCtorEq, decide_true, decide_false, not_true_eq_false, not_false_eq_true, ze_ltT, ze_ltF, ze_leT, ze_leF, ze_eqT, ze_eqF, ze_mlt, ze_ltm, ze_mle, ze_lem, ze_meq, ze_eqm, ze_mm, ze_mltm, ze_inT, ze_inF, ze_inM, ze_cl, ze_fin, ze_decT, ze_decF, Nat.reduceSub, Nat.reduceMul, nI_add, Nat.add_sub_cancel, Nat.add_assoc, Nat.reduceAdd, ze_r8, ze_r24, ze_r40, ze_r400, ze_l8, ze_l16, ze_l24, ze_l40, ze_sub, ze_am1, ze_es, ze_en, ze_i64, ze_m64, ze_64i, ze_64m, ze_LltT, ze_LltF, ze_LleT, ze_LleF, ze_LeqT, ze_LeqF, ze_Lmlt, ze_Lltm, ze_Lmle, ze_Llem, ze_Lmeq, ze_Leqm, ze_Lmm, lN_add, ze_ch, ze_chd, ze_bt, ze_bf, ze_n0, ze_n1, ze_n2, ze_n3, ze_n4, ze_n5, ze_n6, ze_n7, ze_n8, ze_n9, ze_n10, ze_n11, ze_n12, ze_n13, ze_n14, ze_n15, ze_n16, ze_n17, ze_n18, ze_n19, ze_n20, ze_n21, ze_n22, ze_n23, ze_n24, ze_n25, ze_n26, ze_n27, ze_n28, ze_n29, ze_n30, ze_n31, ze_n32, ze_n33, ze_n34, ze_n35, ze_n36, ze_n37, ze_n38, ze_n39, ze_n40, ze_n48, ze_n63, ze_n64, ze_n65, ze_n80, ze_n100, ze_n128, ze_n200, ze_n255, ze_n300, ze_n320, ze_n384, ze_n400, ze_n512, ze_n1023, ze_n1600, ze_n6400, ze_n9600, ze_n32768, ze_n65535, ze_n65536, ze_n802, ze_n8191, ze_L0, ze_L1, ze_L2, ze_L3, ze_L4, ze_L5, ze_L6, ze_L7, ze_L8, ze_L9, ze_L10, ze_L15, ze_L16, ze_L24, ze_L40, ze_L48, ze_L63, ze_L64, ze_L127, ze_L255, ze_L400, ze_L1024, ze_L2047, ze_L65535]
    cases ef : zd_first (zm_fc G m o) G.2.1 with
    | some j =>
      obtain ⟨hj, hj2, _⟩ := zd_first_some.mp ef
      unfold zm_fc at hj2
      simp only [Bool.and_eq_true, decide_eq_true_eq] at hj2
      obtain ⟨a, b, c, d⟩ := hg j hj
      have hc4 := X.2.2.2
      rw [ef] at seek
      have seek : zs_Ref_mapped_L118 (nI m) (lN o) (nI 0) k = some (lN (G.2.2 j).2.2, k) := seek
      have tk : s.1 18 0 (400 * m + o) = nI (G.2.2 j).2.2 := by
        rw [tk]; unfold zm_find; rw [ef]; rfl
      refine ⟨some (lN (G.2.2 j).2.2, none, G), ⟨s, ?_, zd_fC_refl _ s, P, X.2.1⟩, ⟨k, ?_, zd_fR_refl _ k, R, Y.2.1⟩, ?_, I, Or.inl rfl⟩
      · simp (disch := omega) only [zs_Mapper_byMethod, zs_Mapper_beanOf_J63, zs_Mapper_beanOf_J19, zs_Mapper_beanOf, hh, c54, zd_C_mt HC, ib, h4, mul, tk, ↓zd_bnd, ↓zy_bm, if_true, if_false, ite_true, ite_false, ↓reduceIte, Bool.false_eq_true, Bool.true_eq_false, eq_self, true_and, and_true, false_and, and_false, reduceCtorEq, decide_true, decide_false, not_true_eq_false, not_false_eq_true, ze_ltT, ze_ltF, ze_leT, ze_leF, ze_eqT, ze_eqF, ze_mlt, ze_ltm, ze_mle, ze_lem, ze_meq, ze_eqm, ze_mm, ze_mltm, ze_inT, ze_inF, ze_inM, ze_cl, ze_fin, ze_decT, ze_decF, Nat.reduceSub, Nat.reduceMul, nI_add, Nat.add_sub_cancel, Nat.add_assoc, Nat.reduceAdd, ze_r8, ze_r24, ze_r40, ze_r400, ze_l8, ze_l16, ze_l24, ze_l40, ze_sub, ze_am1, ze_es, ze_en, ze_i64, ze_m64, ze_64i, ze_64m, ze_LltT, ze_LltF, ze_LleT, ze_LleF, ze_LeqT, ze_LeqF, ze_Lmlt, ze_Lltm, ze_Lmle, ze_Llem, ze_Lmeq, ze_Leqm, ze_Lmm, lN_add, ze_ch, ze_chd, ze_bt, ze_bf, ze_n0, ze_n1, ze_n2, ze_n3, ze_n4, ze_n5, ze_n6, ze_n7, ze_n8, ze_n9, ze_n10, ze_n11, ze_n12, ze_n13, ze_n14, ze_n15, ze_n16, ze_n17, ze_n18, ze_n19, ze_n20, ze_n21, ze_n22, ze_n23, ze_n24, ze_n25, ze_n26, ze_n27, ze_n28, ze_n29, ze_n30, ze_n31, ze_n32, ze_n33, ze_n34, ze_n35, ze_n36, ze_n37, ze_n38, ze_n39, ze_n40, ze_n48, ze_n63, ze_n64, ze_n65, ze_n80, ze_n100, ze_n128, ze_n200, ze_n255, ze_n300, ze_n320, ze_n384, ze_n400, ze_n512, ze_n1023, ze_n1600, ze_n6400, ze_n9600, ze_n32768, ze_n65535, ze_n65536, ze_n802, ze_n8191, ze_L0, ze_L1, ze_L2, ze_L3, ze_L4, ze_L5, ze_L6, ze_L7, ze_L8, ze_L9, ze_L10, ze_L15, ze_L16, ze_L24, ze_L40, ze_L48, ze_L63, ze_L64, ze_L127, ze_L255, ze_L400, ze_L1024, ze_L2047, ze_L65535]
      · simp (disch := omega) only [zs_Ref_mapped, c30, c31, c25, zd_R_mf HR, zd_R_mt HR, zd_R_srt HR, h3, seek, ↓zd_bnd, ↓zy_bm, if_true, if_false, ite_true, ite_false, ↓reduceIte, Bool.false_eq_true, Bool.true_eq_false, eq_self, true_and, and_true, false_and, and_false, reduceCtorEq, decide_true, decide_false, not_true_eq_false, not_false_eq_true, ze_ltT, ze_ltF, ze_leT, ze_leF, ze_eqT, ze_eqF, ze_mlt, ze_ltm, ze_mle, ze_lem, ze_meq, ze_eqm, ze_mm, ze_mltm, ze_inT, ze_inF, ze_inM, ze_cl, ze_fin, ze_decT, ze_decF, Nat.reduceSub, Nat.reduceMul, nI_add, Nat.add_sub_cancel, Nat.add_assoc, Nat.reduceAdd, ze_r8, ze_r24, ze_r40, ze_r400, ze_l8, ze_l16, ze_l24, ze_l40, ze_sub, ze_am1, ze_es, ze_en, ze_i64, ze_m64, ze_64i, ze_64m, ze_LltT, ze_LltF, ze_LleT, ze_LleF, ze_LeqT, ze_LeqF, ze_Lmlt, ze_Lltm, ze_Lmle, ze_Llem, ze_Lmeq, ze_Leqm, ze_Lmm, lN_add, ze_ch, ze_chd, ze_bt, ze_bf, ze_n0, ze_n1, ze_n2, ze_n3, ze_n4, ze_n5, ze_n6, ze_n7, ze_n8, ze_n9, ze_n10, ze_n11, ze_n12, ze_n13, ze_n14, ze_n15, ze_n16, ze_n17, ze_n18, ze_n19, ze_n20, ze_n21, ze_n22, ze_n23, ze_n24, ze_n25, ze_n26, ze_n27, ze_n28, ze_n29, ze_n30, ze_n31, ze_n32, ze_n33, ze_n34, ze_n35, ze_n36, ze_n37, ze_n38, ze_n39, ze_n40, ze_n48, ze_n63, ze_n64, ze_n65, ze_n80, ze_n100, ze_n128, ze_n200, ze_n255, ze_n300, ze_n320, ze_n384, ze_n400, ze_n512, ze_n1023, ze_n1600, ze_n6400, ze_n9600, ze_n32768, ze_n65535, ze_n65536, ze_n802, ze_n8191, ze_L0, ze_L1, ze_L2, ze_L3, ze_L4, ze_L5, ze_L6, ze_L7, ze_L8, ze_L9, ze_L10, ze_L15, ze_L16, ze_L24, ze_L40, ze_L48, ze_L63, ze_L64, ze_L127, ze_L255, ze_L400, ze_L1024, ze_L2047, ze_L65535]
      · have e2 : zd_srt B = zd_srt A := by funext i; exact congrFun (congrFun (E.1.1 2 (by decide)) i) 0
        show zd_val B (zd_mt A m) _
        unfold zd_val
        rw [if_neg (by omega), e2]
        exact Or.inr (Or.inr ⟨by omega, _, c, by rw [d, hj2.1], rfl⟩)
    | none =>
      have fn : zm_find G m o = none := by unfold zm_find; rw [ef]
      rw [ef] at seek
      have seek : zs_Ref_mapped_L118 (nI m) (lN o) (nI 0) k = zs_Ref_mapped_L118_body (fun _ _ _ _ => none) (nI m) (lN o) (nI G.2.1) k := seek
      have tk : s.1 18 0 (400 * m + o) = -nI 1 := by
        rw [tk, fn]; rfl
      have r28 := R.2.2.2.1
      have hc4 := X.2.2.2
      have i1 := I.1
      have i2 := I.2.1
      by_cases hn2 : n < 400
      · obtain ⟨s1, e1, e2⟩ := cf hn2
        obtain ⟨k1, g1, g2, _⟩ := rf hn2
        rw [cnt] at g2
        have P1 := zm_CP_gC e2.1 P
        have R1 := zm_RP_gR g2.1 R
        obtain ⟨s2, b1, b2, b3, b4⟩ := zm_C_begin (zm_C_take P1 (m := m) (o := o) (t := n) (by omega) ho4 fn) (n := n) (m := m) (o := o) (t := n) (show G.1.1 < 400 by omega) (by omega)
        obtain ⟨k2, d1, d2, d3, d4, d5⟩ := zm_R_wait (zm_R_know R1 (m := m) (o := o) (t := n) (by omega)) (m := m) (o := o) (t := n) (show G.1.1 < 400 by omega) (by omega)
        have e16 : zm_e16 m = nI m := if_neg (by omega)
        rw [e16] at b1 d1
        have k28 : k1.1 24 0 28 = nI G.2.1 := R1.2.2.2.1
        refine ⟨some (lN n, some (zd_mt A m, zd_sz A (zd_mt A m), fun i => zg_emp (zd_pt A (zd_mt A m) i)), zm_push (zm_know G m o n) m o n), ⟨s2, ?_, ?_, b2, ?_⟩, ⟨k2, ?_, ?_, d2, ?_⟩, ⟨by rw [hn], fit⟩, ?_⟩
        · simp (disch := omega) only [zs_Mapper_byMethod, zs_Mapper_beanOf_J63, zs_Mapper_beanOf_J19, zs_Mapper_beanOf, hh, c54, zd_C_mt HC, ib, h4, mul, tk, e1, b1, ↓zd_bnd, ↓zy_bm, if_true, if_false, ite_true, ite_false, ↓reduceIte, Bool.false_eq_true, Bool.true_eq_false, eq_self, true_and, and_true, false_and, and_false, reduceCtorEq, decide_true, decide_false, not_true_eq_false, not_false_eq_true, ze_ltT, ze_ltF, ze_leT, ze_leF, ze_eqT, ze_eqF, ze_mlt, ze_ltm, ze_mle, ze_lem, ze_meq, ze_eqm, ze_mm, ze_mltm, ze_inT, ze_inF, ze_inM, ze_cl, ze_fin, ze_decT, ze_decF, Nat.reduceSub, Nat.reduceMul, nI_add, Nat.add_sub_cancel, Nat.add_assoc, Nat.reduceAdd, ze_r8, ze_r24, ze_r40, ze_r400, ze_l8, ze_l16, ze_l24, ze_l40, ze_sub, ze_am1, ze_es, ze_en, ze_i64, ze_m64, ze_64i, ze_64m, ze_LltT, ze_LltF, ze_LleT, ze_LleF, ze_LeqT, ze_LeqF, ze_Lmlt, ze_Lltm, ze_Lmle, ze_Llem, ze_Lmeq, ze_Leqm, ze_Lmm, lN_add, ze_ch, ze_chd, ze_bt, ze_bf, ze_n0, ze_n1, ze_n2, ze_n3, ze_n4, ze_n5, ze_n6, ze_n7, ze_n8, ze_n9, ze_n10, ze_n11, ze_n12, ze_n13, ze_n14, ze_n15, ze_n16, ze_n17, ze_n18, ze_n19, ze_n20, ze_n21, ze_n22, ze_n23, ze_n24, ze_n25, ze_n26, ze_n27, ze_n28, ze_n29, ze_n30, ze_n31, ze_n32, ze_n33, ze_n34, ze_n35, ze_n36, ze_n37, ze_n38, ze_n39, ze_n40, ze_n48, ze_n63, ze_n64, ze_n65, ze_n80, ze_n100, ze_n128, ze_n200, ze_n255, ze_n300, ze_n320, ze_n384, ze_n400, ze_n512, ze_n1023, ze_n1600, ze_n6400, ze_n9600, ze_n32768, ze_n65535, ze_n65536, ze_n802, ze_n8191, ze_L0, ze_L1, ze_L2, ze_L3, ze_L4, ze_L5, ze_L6, ze_L7, ze_L8, ze_L9, ze_L10, ze_L15, ze_L16, ze_L24, ze_L40, ze_L48, ze_L63, ze_L64, ze_L127, ze_L255, ze_L400, ze_L1024, ze_L2047, ze_L65535]
        · refine zd_fC_trans (zd_gC_f e2.1) (zd_fC_trans (zd_fC_I (zd_fC_refl _ s1) (nI n) (by omega)) (zm_fC_of b3 b4))
        · refine zm_obC_of hn2 e2 (fun F h1 h2 h3 h4 h5 h6 => (b3 F h1 h2 h3 h4 h5).trans (ze_sIF _ _ _ _ h6)) b4
        · simp (disch := omega) only [zs_Ref_mapped, c30, c31, c25, zd_R_mf HR, zd_R_mt HR, zd_R_srt HR, h3, seek, zs_Ref_mapped_L118_body, r28, k28, g1, d1, ↓zd_bnd, ↓zy_bm, if_true, if_false, ite_true, ite_false, ↓reduceIte, Bool.false_eq_true, Bool.true_eq_false, eq_self, true_and, and_true, false_and, and_false, reduceCtorEq, decide_true, decide_false, not_true_eq_false, not_false_eq_true, ze_ltT, ze_ltF, ze_leT, ze_leF, ze_eqT, ze_eqF, ze_mlt, ze_ltm, ze_mle, ze_lem, ze_meq, ze_eqm, ze_mm, ze_mltm, ze_inT, ze_inF, ze_inM, ze_cl, ze_fin, ze_decT, ze_decF, Nat.reduceSub, Nat.reduceMul, nI_add, Nat.add_sub_cancel, Nat.add_assoc, Nat.reduceAdd, ze_r8, ze_r24, ze_r40, ze_r400, ze_l8, ze_l16, ze_l24, ze_l40, ze_sub, ze_am1, ze_es, ze_en, ze_i64, ze_m64, ze_64i, ze_64m, ze_LltT, ze_LltF, ze_LleT, ze_LleF, ze_LeqT, ze_LeqF, ze_Lmlt, ze_Lltm, ze_Lmle, ze_Llem, ze_Lmeq, ze_Leqm, ze_Lmm, lN_add, ze_ch, ze_chd, ze_bt, ze_bf, ze_n0, ze_n1, ze_n2, ze_n3, ze_n4, ze_n5, ze_n6, ze_n7, ze_n8, ze_n9, ze_n10, ze_n11, ze_n12, ze_n13, ze_n14, ze_n15, ze_n16, ze_n17, ze_n18, ze_n19, ze_n20, ze_n21, ze_n22, ze_n23, ze_n24, ze_n25, ze_n26, ze_n27, ze_n28, ze_n29, ze_n30, ze_n31, ze_n32, ze_n33, ze_n34, ze_n35, ze_n36, ze_n37, ze_n38, ze_n39, ze_n40, ze_n48, ze_n63, ze_n64, ze_n65, ze_n80, ze_n100, ze_n128, ze_n200, ze_n255, ze_n300, ze_n320, ze_n384, ze_n400, ze_n512, ze_n1023, ze_n1600, ze_n6400, ze_n9600, ze_n32768, ze_n65535, ze_n65536, ze_n802, ze_n8191, ze_L0, ze_L1, ze_L2, ze_L3, ze_L4, ze_L5, ze_L6, ze_L7, ze_L8, ze_L9, ze_L10, ze_L15, ze_L16, ze_L24, ze_L40, ze_L48, ze_L63, ze_L64, ze_L127, ze_L255, ze_L400, ze_L1024, ze_L2047, ze_L65535, ze_gIs, ze_gIn, ze_gJs, ze_gJn, zd_gI2, zd_gJ1, ze_sII]
        · refine zd_fR_trans (zd_gR_f g2.1) (zd_fR_trans ?_ (zm_fR_of d3 d4 d5))
          exact zd_fR_I (zd_fR_I (zd_fR_I (zd_fR_I (zd_fR_refl _ k1) _ (by omega)) _ (by omega)) _ (by omega)) _ (Or.inl ⟨rfl, by unfold zd_st; decide⟩)
        · refine zm_obR_of hn2 ht14 (by omega) g2 val0 (fun F h1 h2 h3 h4 h5 h6 h7 h8 => ?_) (by rw [d4]; rfl) ?_
          · rw [d3 F h1 h5 h6 h7 h8, ze_sIF _ _ _ _ (by omega), ze_sIF _ _ _ _ (by omega), ze_sIF _ _ _ _ (by omega), ze_sIF _ _ _ _ (by omega)]
          · rw [d5 23 (by decide)]
            simp (disch := omega) only [ze_gIs, ze_gIn, ze_gJs, ze_gJn, zd_gI2, zd_gJ1, ze_sII]
        · subst hn
          have q := zm_inv_know I (t := zd_mt A m) (c := zd_sz A (zd_mt A m)) (f := fun i => zg_emp (zd_pt A (zd_mt A m) i)) hm ho rfl
          have ev : ∀ x, x < zd_sz A (zd_mt A m) → zd_vl (zg_newO B (zd_mt A m) (zd_sz A (zd_mt A m)) (fun i => zg_emp (zd_pt A (zd_mt A m) i))) (zd_O B) x = zg_emp (zd_pt A (zd_mt A m) x) := fun x hx => by rw [zg_newO_vl, if_pos ⟨rfl, hx⟩]
          have p := zm_inv_push I (t := zd_mt A m) (c := zd_sz A (zd_mt A m)) (f := fun i => zg_emp (zd_pt A (zd_mt A m) i)) (m := m) (o := o) ⟨ho, E.2.1, Nat.lt_succ_self _, Or.inl ⟨hm, h4, hto, by show zd_ty _ (zd_O B) = _; rw [zg_newO_ty, if_pos rfl], Nat.zero_le _, fun x _ hx => ev x hx⟩⟩
          exact ⟨⟨p.1, q.2.1, q.2.2.1, p.2.2.2.1, p.2.2.2.2⟩, Or.inr ⟨fun z => (by cases z), m, o, zd_O B, rfl⟩⟩
      · have hn3 : n = 400 := by omega
        have xO := Y.2.1
        rw [hn3] at xO
        refine ⟨none, ⟨-lN 1, zx_sI s 23 0 2 (nI 1), ?_, zd_fC_I (zd_fC_refl n s) _ (by omega), by simp (disch := omega) only [ze_gIs, ze_gIn, ze_gJs, ze_gJn, zd_gI2, zd_gJ1, ze_sII]⟩, ⟨-lN 1, zx_sI k 24 0 37 (nI 1), ?_, (zm_Rf Y).1, by simp (disch := omega) only [ze_gIs, ze_gIn, ze_gJs, ze_gJn, zd_gI2, zd_gJ1, ze_sII]⟩, trivial, trivial⟩
        · simp (disch := omega) only [zs_Mapper_byMethod, zs_Mapper_beanOf_J63, zs_Mapper_beanOf_J19, zs_Mapper_beanOf, hh, c54, zd_C_mt HC, ib, h4, mul, tk, zm_C_createBean0 HC K X hn3, ↓zd_bnd, ↓zy_bm, if_true, if_false, ite_true, ite_false, ↓reduceIte, Bool.false_eq_true, Bool.true_eq_false, eq_self, true_and, and_true, false_and, and_false, reduceCtorEq, decide_true, decide_false, not_true_eq_false, not_false_eq_true, ze_ltT, ze_ltF, ze_leT, ze_leF, ze_eqT, ze_eqF, ze_mlt, ze_ltm, ze_mle, ze_lem, ze_meq, ze_eqm, ze_mm, ze_mltm, ze_inT, ze_inF, ze_inM, ze_cl, ze_fin, ze_decT, ze_decF, Nat.reduceSub, Nat.reduceMul, nI_add, Nat.add_sub_cancel, Nat.add_assoc, Nat.reduceAdd, ze_r8, ze_r24, ze_r40, ze_r400, ze_l8, ze_l16, ze_l24, ze_l40, ze_sub, ze_am1, ze_es, ze_en, ze_i64, ze_m64, ze_64i, ze_64m, ze_LltT, ze_LltF, ze_LleT, ze_LleF, ze_LeqT, ze_LeqF, ze_Lmlt, ze_Lltm, ze_Lmle, ze_Llem, ze_Lmeq, ze_Leqm, ze_Lmm, lN_add, ze_ch, ze_chd, ze_bt, ze_bf, ze_n0, ze_n1, ze_n2, ze_n3, ze_n4, ze_n5, ze_n6, ze_n7, ze_n8, ze_n9, ze_n10, ze_n11, ze_n12, ze_n13, ze_n14, ze_n15, ze_n16, ze_n17, ze_n18, ze_n19, ze_n20, ze_n21, ze_n22, ze_n23, ze_n24, ze_n25, ze_n26, ze_n27, ze_n28, ze_n29, ze_n30, ze_n31, ze_n32, ze_n33, ze_n34, ze_n35, ze_n36, ze_n37, ze_n38, ze_n39, ze_n40, ze_n48, ze_n63, ze_n64, ze_n65, ze_n80, ze_n100, ze_n128, ze_n200, ze_n255, ze_n300, ze_n320, ze_n384, ze_n400, ze_n512, ze_n1023, ze_n1600, ze_n6400, ze_n9600, ze_n32768, ze_n65535, ze_n65536, ze_n802, ze_n8191, ze_L0, ze_L1, ze_L2, ze_L3, ze_L4, ze_L5, ze_L6, ze_L7, ze_L8, ze_L9, ze_L10, ze_L15, ze_L16, ze_L24, ze_L40, ze_L48, ze_L63, ze_L64, ze_L127, ze_L255, ze_L400, ze_L1024, ze_L2047, ze_L65535]
        · simp (disch := omega) only [zs_Ref_mapped, c30, c31, c25, zd_R_mf HR, zd_R_mt HR, zd_R_srt HR, h3, seek, zs_Ref_mapped_L118_body, r28, zm_R_object0 xO, ↓zd_bnd, ↓zy_bm, if_true, if_false, ite_true, ite_false, ↓reduceIte, Bool.false_eq_true, Bool.true_eq_false, eq_self, true_and, and_true, false_and, and_false, reduceCtorEq, decide_true, decide_false, not_true_eq_false, not_false_eq_true, ze_ltT, ze_ltF, ze_leT, ze_leF, ze_eqT, ze_eqF, ze_mlt, ze_ltm, ze_mle, ze_lem, ze_meq, ze_eqm, ze_mm, ze_mltm, ze_inT, ze_inF, ze_inM, ze_cl, ze_fin, ze_decT, ze_decF, Nat.reduceSub, Nat.reduceMul, nI_add, Nat.add_sub_cancel, Nat.add_assoc, Nat.reduceAdd, ze_r8, ze_r24, ze_r40, ze_r400, ze_l8, ze_l16, ze_l24, ze_l40, ze_sub, ze_am1, ze_es, ze_en, ze_i64, ze_m64, ze_64i, ze_64m, ze_LltT, ze_LltF, ze_LleT, ze_LleF, ze_LeqT, ze_LeqF, ze_Lmlt, ze_Lltm, ze_Lmle, ze_Llem, ze_Lmeq, ze_Leqm, ze_Lmm, lN_add, ze_ch, ze_chd, ze_bt, ze_bf, ze_n0, ze_n1, ze_n2, ze_n3, ze_n4, ze_n5, ze_n6, ze_n7, ze_n8, ze_n9, ze_n10, ze_n11, ze_n12, ze_n13, ze_n14, ze_n15, ze_n16, ze_n17, ze_n18, ze_n19, ze_n20, ze_n21, ze_n22, ze_n23, ze_n24, ze_n25, ze_n26, ze_n27, ze_n28, ze_n29, ze_n30, ze_n31, ze_n32, ze_n33, ze_n34, ze_n35, ze_n36, ze_n37, ze_n38, ze_n39, ze_n40, ze_n48, ze_n63, ze_n64, ze_n65, ze_n80, ze_n100, ze_n128, ze_n200, ze_n255, ze_n300, ze_n320, ze_n384, ze_n400, ze_n512, ze_n1023, ze_n1600, ze_n6400, ze_n9600, ze_n32768, ze_n65535, ze_n65536, ze_n802, ze_n8191, ze_L0, ze_L1, ze_L2, ze_L3, ze_L4, ze_L5, ze_L6, ze_L7, ze_L8, ze_L9, ze_L10, ze_L15, ze_L16, ze_L24, ze_L40, ze_L48, ze_L63, ze_L64, ze_L127, ze_L255, ze_L400, ze_L1024, ze_L2047, ze_L65535, ze_gIs, ze_gIn, ze_gJs, ze_gJn, zd_gI2, zd_gJ1, ze_sII]
