/-! functions applied -/
def zm_cst (t : Nat) (y : Int64) : Int64 := (zs_Ref_cast y (nI t) (fun _ _ _ => 0, fun _ _ _ => 0)).getD 0
theorem zm_cst_R (k : zx_H) {t : Nat} (ht : t < 7) (y : Int64) : zs_Ref_cast y (nI t) k = some (zm_cst t y) := by
  have ht : t = 0 ∨ t = 1 ∨ t = 2 ∨ t = 3 ∨ t = 4 ∨ t = 5 ∨ t = 6 := by omega
  rcases ht with rfl | rfl | rfl | rfl | rfl | rfl | rfl <;> rfl
theorem zm_cst_C (h : zx_H) {t : Nat} (ht : t < 6) (y : Int64) : zs_Basics_cast (nI 4) (nI t) y h = some (zm_cst t y) := by
  obtain ⟨w, e1, e2⟩ := zm_J61 h h ht y
  rw [zm_cst_R h (by omega)] at e2
  rw [Option.some.inj e2]
  simp (disch := omega) only [zs_Basics_cast, zs_Basics_cast_J14, zs_Basics_cast_J28, e1, ↓zd_bnd, ↓zy_bm, if_true, if_false, ite_true, ite_false, ↓reduceIte, Bool.false_eq_true, Bool.true_eq_false, eq_self, true_and, and_true, false_and, and_false, reduceCtorEq, decide_true, decide_false, not_true_eq_false, not_false_eq_true, ze_ltT, ze_ltF, ze_leT, ze_leF, ze_eqT, ze_eqF, ze_mlt, ze_ltm, ze_mle, ze_lem, ze_meq, ze_eqm, ze_mm, ze_mltm, ze_inT, ze_inF, ze_inM, ze_cl, ze_fin, ze_decT, ze_decF, Nat.reduceSub, Nat.reduceMul, nI_add, Nat.add_sub_cancel, Nat.add_assoc, Nat.reduceAdd, ze_r8, ze_r24, ze_r40, ze_r400, ze_l8, ze_l16, ze_l24, ze_l40, ze_sub, ze_am1, ze_es, ze_en, ze_i64, ze_m64, ze_64i, ze_64m, ze_LltT, ze_LltF, ze_LleT, ze_LleF, ze_LeqT, ze_LeqF, ze_Lmlt, ze_Lltm, ze_Lmle, ze_Llem, ze_Lmeq, ze_Leqm, ze_Lmm, lN_add, ze_ch, ze_chd, ze_bt, ze_bf, ze_n0, ze_n1, ze_n2, ze_n3, ze_n4, ze_n5, ze_n6, ze_n7, ze_n8, ze_n9, ze_n10, ze_n11, ze_n12, ze_n13, ze_n14, ze_n15, ze_n16, ze_n17, ze_n18, ze_n19, ze_n20, ze_n21, ze_n22, ze_n23, ze_n24, ze_n25, ze_n26, ze_n27, ze_n28, ze_n29, ze_n30, ze_n31, ze_n32, ze_n33, ze_n34, ze_n35, ze_n36, ze_n37, ze_n38, ze_n39, ze_n40, ze_n48, ze_n63, ze_n64, ze_n65, ze_n80, ze_n100, ze_n128, ze_n200, ze_n255, ze_n300, ze_n320, ze_n384, ze_n400, ze_n512, ze_n1023, ze_n1600, ze_n6400, ze_n9600, ze_n32768, ze_n65535, ze_n65536, ze_n802, ze_n8191, ze_L0, ze_L1, ze_L2, ze_L3, ze_L4, ze_L5, ze_L6, ze_L7, ze_L8, ze_L9, ze_L10, ze_L15, ze_L16, ze_L24, ze_L40, ze_L48, ze_L63, ze_L64, ze_L127, ze_L255, ze_L400, ze_L1024, ze_L2047, ze_L65535]
theorem zm_cst_ok {t : Nat} (ht : t < 6) (y : Int64) : zn_ok t (zm_cst t y) := zm_cast_ok (fun _ _ _ => 0, fun _ _ _ => 0) ht (zm_cst_R _ (by omega) y)
def zm_fv (A : zd_A) (f : Nat) (x : Int64) : Int64 := zm_cst (zp_kd (zd_ft A f)) (x * (zd_fa A f).toInt64 + (zd_fb A f).toInt64)
theorem zm_fk {A : zd_A} (K : zd_ok A) {f : Nat} (hf : f < zd_F A) : zd_ft A f < 14 ∧ zp_kd (zd_ft A f) < 6 ∧ zd_ff A f < 14 ∧ zp_kd (zd_ff A f) < 6 := by
  have a := zd_ok_ff K f hf
  have b := zd_ok_ft K f hf
  refine ⟨b.1, ?_, a.1, ?_⟩
  · unfold zp_kd; split <;> omega
  · unfold zp_kd; split <;> omega
theorem zm_fv_ok {A : zd_A} (K : zd_ok A) {f : Nat} (hf : f < zd_F A) (x : Int64) : zn_ok (zp_kd (zd_ft A f)) (zm_fv A f x) := zm_cst_ok (zm_fk K hf).2.1 _
theorem zm_R_applied {A : zd_A} {h0 : zx_H} (H : zd_R A h0) (K : zd_ok A) {s : zx_H} {n : Nat} (X : zm_R A h0 s n) {f : Nat} (hf : f < zd_F A) (x : Int64) (s1 : zx_H) (Z : zd_fR (zd_O A) h0 s1) : zs_Ref_applied (nI f) x s1 = zs_Ref_boxed (nI (zd_ft A f)) (zm_fv A f x) s1 := by
  have hF := zd_ok_F K
  have q := zm_fk K hf
  have c37 := (Z.1 37 (by decide) (by decide)).1
  have c38 := (Z.1 38 (by decide) (by decide)).1
  have c39 := (Z.1 39 (by decide) (by decide)).1
  have e := zm_cst_R s1 (t := zp_kd (zd_ft A f)) (by omega) (x * (zd_fa A f).toInt64 + (zd_fb A f).toInt64)
  unfold zm_fv
  simp (disch := omega) only [zs_Ref_applied, c37, c38, c39, zd_R_ft H, zd_R_fa H, zd_R_fb H, zm_kindR _ q.1, e, ↓zd_bnd, ↓zy_bm, if_true, if_false, ite_true, ite_false, ↓reduceIte, Bool.false_eq_true, Bool.true_eq_false, eq_self, true_and, and_true, false_and, and_false, reduceCtorEq, decide_true, decide_false, not_true_eq_false, not_false_eq_true, ze_ltT, ze_ltF, ze_leT, ze_leF, ze_eqT, ze_eqF, ze_mlt, ze_ltm, ze_mle, ze_lem, ze_meq, ze_eqm, ze_mm, ze_mltm, ze_inT, ze_inF, ze_inM, ze_cl, ze_fin, ze_decT, ze_decF, Nat.reduceSub, Nat.reduceMul, nI_add, Nat.add_sub_cancel, Nat.add_assoc, Nat.reduceAdd, ze_r8, ze_r24, ze_r40, ze_r400, ze_l8, ze_l16, ze_l24, ze_l40, ze_sub, ze_am1, ze_es, ze_en, ze_i64, ze_m64, ze_64i, ze_64m, ze_LltT, ze_LltF, ze_LleT, ze_LleF, ze_LeqT, ze_LeqF, ze_Lmlt, ze_Lltm, ze_Lmle, ze_Llem, ze_Lmeq, ze_Leqm, ze_Lmm, lN_add, ze_ch, ze_chd, ze_bt, ze_bf, ze_n0, ze_n1, ze_n2, ze_n3, ze_n4, ze_n5, ze_n6, ze_n7, ze_n8, ze_n9, ze_n10, ze_n11, ze_n12, ze_n13, ze_n14, ze_n15, ze_n16, ze_n17, ze_n18, ze_n19, ze_n20, ze_n21, ze_n22, ze_n23, ze_n24, ze_n25, ze_n26, ze_n27, ze_n28, ze_n29, ze_n30, ze_n31, ze_n32, ze_n33, ze_n34, ze_n35, ze_n36, ze_n37, ze_n38, ze_n39, ze_n40, ze_n48, ze_n63, ze_n64, ze_n65, ze_n80, ze_n100, ze_n128, ze_n200, ze_n255, ze_n300, ze_n320, ze_n384, ze_n400, ze_n512, ze_n1023, ze_n1600, ze_n6400, ze_n9600, ze_n32768, ze_n65535, ze_n65536, ze_n802, ze_n8191, ze_L0, ze_L1, ze_L2, ze_L3, ze_L4, ze_L5, ze_L6, ze_L7, ze_L8, ze_L9, ze_L10, ze_L15, ze_L16, ze_L24, ze_L40, ze_L48, ze_L63, ze_L64, ze_L127, ze_L255, ze_L400, ze_L1024, ze_L2047, ze_L65535]
  cases zs_Ref_boxed (nI (zd_ft A f)) (zm_cst (zp_kd (zd_ft A f)) (x * (zd_fa A f).toInt64 + (zd_fb A f).toInt64)) s1 <;> rfl
/-- what a function makes of a plain number -/
def zm_fx (A : zd_A) (n f : Nat) (x : Option Int64) : zm_X := zm_bb n (zd_ft A f) (x.map (zm_fv A f))
theorem zm_C_fun {A : zd_A} {h0 : zx_H} (H : zd_C A h0) (K : zd_ok A) {s : zx_H} {n : Nat} (X : zm_C A h0 s n) (f0 : s.1 23 0 2 = nI 0) {a f : Nat} (ha : a < 15) (hf : f < zd_F A) (hf8 : f < 8) {v : Int64} (hn : ¬ zm_nul a v) {x : Option Int64} (e : zm_PC s x (zs_Converter_plain (nI a) v (nI (zp_kd (zd_ff A f))) s)) : zm_CX A h0 n s (zm_fx A n f x) (zs_Converter_byFunction ⟨f, hf8⟩ (nI a) v s) := by
  have q := zm_fk K hf
  have c53 := (X.1.1 53 (by decide) (by decide)).1
  have en := zm_C_nulF hn (by omega) s
  have e0 : (nI (zd_ff A f)) = nI (zd_ff A f) := rfl
  have e1 := zm_kindC _ q.2.2.1 s
  unfold zm_fx
  cases x with
  | some w =>
    have e : zs_Converter_plain (nI a) v (nI (zp_kd (zd_ff A f))) s = some (w, s) := e
    have e2 := zm_kindC _ q.1 s
    have e3 := zm_cst_C s q.2.1 (w * (zd_fa A f).toInt64 + (zd_fb A f).toInt64)
    have r := zm_C_boxed H K X f0 q.1 (zm_fv A f w)
    have g : zs_Converter_byFunction ⟨f, hf8⟩ (nI a) v s = zs_Converter_boxed (nI (zd_ft A f)) (zm_fv A f w) s := by
      unfold zm_fv
      simp (disch := omega) only [zs_Converter_byFunction, en, c53, zd_C_ff H, zd_C_ft H, zd_C_fa H, zd_C_fb H, e1, e, e2, e3, ↓zd_bnd, ↓zy_bm, if_true, if_false, ite_true, ite_false, ↓reduceIte, Bool.false_eq_true, Bool.true_eq_false, eq_self, true_and, and_true, false_and, and_false, reduceCtorEq, decide_true, decide_false, not_true_eq_false, not_false_eq_true, ze_ltT, ze_ltF, ze_leT, ze_leF, ze_eqT, ze_eqF, ze_mlt, ze_ltm, ze_mle, ze_lem, ze_meq, ze_eqm, ze_mm, ze_mltm, ze_inT, ze_inF, ze_inM, ze_cl, ze_fin, ze_decT, ze_decF, Nat.reduceSub, Nat.reduceMul, nI_add, Nat.add_sub_cancel, Nat.add_assoc, Nat.reduceAdd, ze_r8, ze_r24, ze_r40, ze_r400, ze_l8, ze_l16, ze_l24, ze_l40, ze_sub, ze_am1, ze_es, ze_en, ze_i64, ze_m64, ze_64i, ze_64m, ze_LltT, ze_LltF, ze_LleT, ze_LleF, ze_LeqT, ze_LeqF, ze_Lmlt, ze_Lltm, ze_Lmle, ze_Llem, ze_Lmeq, ze_Leqm, ze_Lmm, lN_add, ze_ch, ze_chd, ze_bt, ze_bf, ze_n0, ze_n1, ze_n2, ze_n3, ze_n4, ze_n5, ze_n6, ze_n7, ze_n8, ze_n9, ze_n10, ze_n11, ze_n12, ze_n13, ze_n14, ze_n15, ze_n16, ze_n17, ze_n18, ze_n19, ze_n20, ze_n21, ze_n22, ze_n23, ze_n24, ze_n25, ze_n26, ze_n27, ze_n28, ze_n29, ze_n30, ze_n31, ze_n32, ze_n33, ze_n34, ze_n35, ze_n36, ze_n37, ze_n38, ze_n39, ze_n40, ze_n48, ze_n63, ze_n64, ze_n65, ze_n80, ze_n100, ze_n128, ze_n200, ze_n255, ze_n300, ze_n320, ze_n384, ze_n400, ze_n512, ze_n1023, ze_n1600, ze_n6400, ze_n9600, ze_n32768, ze_n65535, ze_n65536, ze_n802, ze_n8191, ze_L0, ze_L1, ze_L2, ze_L3, ze_L4, ze_L5, ze_L6, ze_L7, ze_L8, ze_L9, ze_L10, ze_L15, ze_L16, ze_L24, ze_L40, ze_L48, ze_L63, ze_L64, ze_L127, ze_L255, ze_L400, ze_L1024, ze_L2047, ze_L65535]
      cases zs_Converter_boxed (nI (zd_ft A f)) (zm_cst (zp_kd (zd_ft A f)) (w * (zd_fa A f).toInt64 + (zd_fb A f).toInt64)) s <;> rfl
    rw [g]
    exact r
  | none =>
    obtain ⟨w, e⟩ := e
    have X1 := zm_Cf X
    have f1 : (zx_sI s 23 0 2 (nI 1)).1 23 0 2 = nI 1 := by simp (disch := omega) only [ze_gIs, ze_gIn, ze_gJs, ze_gJn, zd_gI2, zd_gJ1, ze_sII]
    have c53 := (X.1.1 53 (by decide) (by decide)).1
    have d53 := (X1.1.1 53 (by decide) (by decide)).1
    have e2 := zm_kindC _ q.1 (zx_sI s 23 0 2 (nI 1))
    have e3 := zm_cst_C (zx_sI s 23 0 2 (nI 1)) q.2.1 (w * (zd_fa A f).toInt64 + (zd_fb A f).toInt64)
    obtain ⟨v2, s2, r1, r2, r3⟩ := zm_C_boxedF H K X1 f1 q.1 (zm_fv A f w)
    refine ⟨v2, s2, ?_, r2, r3⟩
    unfold zm_fv at r1
    simp (disch := omega) only [zs_Converter_byFunction, en, c53, d53, zd_C_ff H, zd_C_ft H, zd_C_fa H, zd_C_fb H, e1, e, e2, e3, r1, ↓zd_bnd, ↓zy_bm, if_true, if_false, ite_true, ite_false, ↓reduceIte, Bool.false_eq_true, Bool.true_eq_false, eq_self, true_and, and_true, false_and, and_false, reduceCtorEq, decide_true, decide_false, not_true_eq_false, not_false_eq_true, ze_ltT, ze_ltF, ze_leT, ze_leF, ze_eqT, ze_eqF, ze_mlt, ze_ltm, ze_mle, ze_lem, ze_meq, ze_eqm, ze_mm, ze_mltm, ze_inT, ze_inF, ze_inM, ze_cl, ze_fin, ze_decT, ze_decF, Nat.reduceSub, Nat.reduceMul, nI_add, Nat.add_sub_cancel, Nat.add_assoc, Nat.reduceAdd, ze_r8, ze_r24, ze_r40, ze_r400, ze_l8, ze_l16, ze_l24, ze_l40, ze_sub, ze_am1, ze_es, ze_en, ze_i64, ze_m64, ze_64i, ze_64m, ze_LltT, ze_LltF, ze_LleT, ze_LleF, ze_LeqT, ze_LeqF, ze_Lmlt, ze_Lltm, ze_Lmle, ze_Llem, ze_Lmeq, ze_Leqm, ze_Lmm, lN_add, ze_ch, ze_chd, ze_bt, ze_bf, ze_n0, ze_n1, ze_n2, ze_n3, ze_n4, ze_n5, ze_n6, ze_n7, ze_n8, ze_n9, ze_n10, ze_n11, ze_n12, ze_n13, ze_n14, ze_n15, ze_n16, ze_n17, ze_n18, ze_n19, ze_n20, ze_n21, ze_n22, ze_n23, ze_n24, ze_n25, ze_n26, ze_n27, ze_n28, ze_n29, ze_n30, ze_n31, ze_n32, ze_n33, ze_n34, ze_n35, ze_n36, ze_n37, ze_n38, ze_n39, ze_n40, ze_n48, ze_n63, ze_n64, ze_n65, ze_n80, ze_n100, ze_n128, ze_n200, ze_n255, ze_n300, ze_n320, ze_n384, ze_n400, ze_n512, ze_n1023, ze_n1600, ze_n6400, ze_n9600, ze_n32768, ze_n65535, ze_n65536, ze_n802, ze_n8191, ze_L0, ze_L1, ze_L2, ze_L3, ze_L4, ze_L5, ze_L6, ze_L7, ze_L8, ze_L9, ze_L10, ze_L15, ze_L16, ze_L24, ze_L40, ze_L48, ze_L63, ze_L64, ze_L127, ze_L255, ze_L400, ze_L1024, ze_L2047, ze_L65535]
theorem zm_R_fun {A : zd_A} {h0 : zx_H} (H : zd_R A h0) (K : zd_ok A) {s : zx_H} {n : Nat} (X : zm_R A h0 s n) (f0 : s.1 24 0 37 = nI 0) {f : Nat} (hf : f < zd_F A) {x : Option Int64} {r : Option (Int64 × zx_H)} (e : zm_PR s x r) : zm_RX A h0 n s (zm_fx A n f x) (r.bind (fun r6 => (if (r6.2.1 24 0 37) = 0 then ((zs_Ref_applied (nI f) r6.1 r6.2).bind (fun r7 => (some (r7.1, r7.2)))) else (some ((0 : Int64), r6.2))))) := by
  have q := zm_fk K hf
  unfold zm_fx
  cases x with
  | some w =>
    have e : r = some (w, s) := e
    subst e
    have g : (Option.bind (some (w, s)) (fun r6 => (if (r6.2.1 24 0 37) = 0 then ((zs_Ref_applied (nI f) r6.1 r6.2).bind (fun r7 => (some (r7.1, r7.2)))) else (some ((0 : Int64), r6.2))))) = zs_Ref_boxed (nI (zd_ft A f)) (zm_fv A f w) s := by
      simp (disch := omega) only [f0, zm_R_applied H K X hf w s X.1, ↓zd_bnd, ↓zy_bm, if_true, if_false, ite_true, ite_false, ↓reduceIte, Bool.false_eq_true, Bool.true_eq_false, eq_self, true_and, and_true, false_and, and_false, reduceCtorEq, decide_true, decide_false, not_true_eq_false, not_false_eq_true, ze_ltT, ze_ltF, ze_leT, ze_leF, ze_eqT, ze_eqF, ze_mlt, ze_ltm, ze_mle, ze_lem, ze_meq, ze_eqm, ze_mm, ze_mltm, ze_inT, ze_inF, ze_inM, ze_cl, ze_fin, ze_decT, ze_decF, Nat.reduceSub, Nat.reduceMul, nI_add, Nat.add_sub_cancel, Nat.add_assoc, Nat.reduceAdd, ze_r8, ze_r24, ze_r40, ze_r400, ze_l8, ze_l16, ze_l24, ze_l40, ze_sub, ze_am1, ze_es, ze_en, ze_i64, ze_m64, ze_64i, ze_64m, ze_LltT, ze_LltF, ze_LleT, ze_LleF, ze_LeqT, ze_LeqF, ze_Lmlt, ze_Lltm, ze_Lmle, ze_Llem, ze_Lmeq, ze_Leqm, ze_Lmm, lN_add, ze_ch, ze_chd, ze_bt, ze_bf, ze_n0, ze_n1, ze_n2, ze_n3, ze_n4, ze_n5, ze_n6, ze_n7, ze_n8, ze_n9, ze_n10, ze_n11, ze_n12, ze_n13, ze_n14, ze_n15, ze_n16, ze_n17, ze_n18, ze_n19, ze_n20, ze_n21, ze_n22, ze_n23, ze_n24, ze_n25, ze_n26, ze_n27, ze_n28, ze_n29, ze_n30, ze_n31, ze_n32, ze_n33, ze_n34, ze_n35, ze_n36, ze_n37, ze_n38, ze_n39, ze_n40, ze_n48, ze_n63, ze_n64, ze_n65, ze_n80, ze_n100, ze_n128, ze_n200, ze_n255, ze_n300, ze_n320, ze_n384, ze_n400, ze_n512, ze_n1023, ze_n1600, ze_n6400, ze_n9600, ze_n32768, ze_n65535, ze_n65536, ze_n802, ze_n8191, ze_L0, ze_L1, ze_L2, ze_L3, ze_L4, ze_L5, ze_L6, ze_L7, ze_L8, ze_L9, ze_L10, ze_L15, ze_L16, ze_L24, ze_L40, ze_L48, ze_L63, ze_L64, ze_L127, ze_L255, ze_L400, ze_L1024, ze_L2047, ze_L65535]
      cases zs_Ref_boxed (nI (zd_ft A f)) (zm_fv A f w) s <;> rfl
    rw [g]
    exact zm_R_boxed H K X f0 q.1 _
  | none =>
    obtain ⟨w, e⟩ := e
    subst e
    have X1 := zm_Rf X
    refine ⟨0, zx_sI s 24 0 37 (nI 1), ?_, X1.1, by simp (disch := omega) only [ze_gIs, ze_gIn, ze_gJs, ze_gJn, zd_gI2, zd_gJ1, ze_sII]⟩
    simp (disch := omega) only [↓zd_bnd, ↓zy_bm, if_true, if_false, ite_true, ite_false, ↓reduceIte, Bool.false_eq_true, Bool.true_eq_false, eq_self, true_and, and_true, false_and, and_false, reduceCtorEq, decide_true, decide_false, not_true_eq_false, not_false_eq_true, ze_ltT, ze_ltF, ze_leT, ze_leF, ze_eqT, ze_eqF, ze_mlt, ze_ltm, ze_mle, ze_lem, ze_meq, ze_eqm, ze_mm, ze_mltm, ze_inT, ze_inF, ze_inM, ze_cl, ze_fin, ze_decT, ze_decF, Nat.reduceSub, Nat.reduceMul, nI_add, Nat.add_sub_cancel, Nat.add_assoc, Nat.reduceAdd, ze_r8, ze_r24, ze_r40, ze_r400, ze_l8, ze_l16, ze_l24, ze_l40, ze_sub, ze_am1, ze_es, ze_en, ze_i64, ze_m64, ze_64i, ze_64m, ze_LltT, ze_LltF, ze_LleT, ze_LleF, ze_LeqT, ze_LeqF, ze_Lmlt, ze_Lltm, ze_Lmle, ze_Llem, ze_Lmeq, ze_Leqm, ze_Lmm, lN_add, ze_ch, ze_chd, ze_bt, ze_bf, ze_n0, ze_n1, ze_n2, ze_n3, ze_n4, ze_n5, ze_n6, ze_n7, ze_n8, ze_n9, ze_n10, ze_n11, ze_n12, ze_n13, ze_n14, ze_n15, ze_n16, ze_n17, ze_n18, ze_n19, ze_n20, ze_n21, ze_n22, ze_n23, ze_n24, ze_n25, ze_n26, ze_n27, ze_n28, ze_n29, ze_n30, ze_n31, ze_n32, ze_n33, ze_n34, ze_n35, ze_n36, ze_n37, ze_n38, ze_n39, ze_n40, ze_n48, ze_n63, ze_n64, ze_n65, ze_n80, ze_n100, ze_n128, ze_n200, ze_n255, ze_n300, ze_n320, ze_n384, ze_n400, ze_n512, ze_n1023, ze_n1600, ze_n6400, ze_n9600, ze_n32768, ze_n65535, ze_n65536, ze_n802, ze_n8191, ze_L0, ze_L1, ze_L2, ze_L3, ze_L4, ze_L5, ze_L6, ze_L7, ze_L8, ze_L9, ze_L10, ze_L15, ze_L16, ze_L24, ze_L40, ze_L48, ze_L63, ze_L64, ze_L127, ze_L255, ze_L400, ze_L1024, ze_L2047, ze_L65535, ze_gIs, ze_gIn, ze_gJs, ze_gJn, zd_gI2, zd_gJ1, ze_sII]
theorem zm_R_funP {A : zd_A} {h0 : zx_H} (H : zd_R A h0) (K : zd_ok A) {s : zx_H} {n : Nat} (X : zm_R A h0 s n) (f0 : s.1 24 0 37 = nI 0) {f : Nat} (hf : f < zd_F A) (w : Int64) : zm_RX A h0 n s (zm_fx A n f (some w)) (zs_Ref_applied (nI f) w s) := by
  rw [zm_R_applied H K X hf w s X.1]
  exact zm_R_boxed H K X f0 (zm_fk K hf).1 _
theorem zm_fx_fit {A : zd_A} (K : zd_ok A) {n f : Nat} (hf : f < zd_F A) (x : Option Int64) : zm_fit A n (zd_ft A f) (zm_fx A n f x) := by
  refine zm_bb_fit K (zm_fk K hf).1 (fun w e => ?_)
  cases x with
  | none => cases e
  | some y =>
    have e : some (zm_fv A f y) = some w := e
    obtain rfl := Option.some.inj e
    exact zm_fv_ok K hf y
/-- class: of its own type, the plain number is the raw one -/
theorem zm_C_plainO {A : zd_A} {h0 : zx_H} (H : zd_C A h0) (K : zd_ok A) {s : zx_H} {n : Nat} (X : zm_C A h0 s n) {a : Nat} (ha : a < 14) {v : Int64} (hv : zd_val A a v) (hn : ¬ zm_nul a v) : zm_PC s (some (zm_raw A a v)) (zs_Converter_plain (nI a) v (nI (zp_kd a)) s) := by
  have hka : zp_kd a < 7 := by unfold zp_kd; split <;> omega
  have hr := zm_raw_ok K ha hv hn
  obtain ⟨w, e1, e2⟩ := zm_cast s s hka hka hr
  have e3 : zs_Ref_castFrom (zm_raw A a v) (nI (zp_kd a)) (nI (zp_kd a)) s = some (zm_raw A a v) := by simp (disch := omega) only [zs_Ref_castFrom, ↓zd_bnd, ↓zy_bm, if_true, if_false, ite_true, ite_false, ↓reduceIte, Bool.false_eq_true, Bool.true_eq_false, eq_self, true_and, and_true, false_and, and_false, reduceCtorEq, decide_true, decide_false, not_true_eq_false, not_false_eq_true, ze_ltT, ze_ltF, ze_leT, ze_leF, ze_eqT, ze_eqF, ze_mlt, ze_ltm, ze_mle, ze_lem, ze_meq, ze_eqm, ze_mm, ze_mltm, ze_inT, ze_inF, ze_inM, ze_cl, ze_fin, ze_decT, ze_decF, Nat.reduceSub, Nat.reduceMul, nI_add, Nat.add_sub_cancel, Nat.add_assoc, Nat.reduceAdd, ze_r8, ze_r24, ze_r40, ze_r400, ze_l8, ze_l16, ze_l24, ze_l40, ze_sub, ze_am1, ze_es, ze_en, ze_i64, ze_m64, ze_64i, ze_64m, ze_LltT, ze_LltF, ze_LleT, ze_LleF, ze_LeqT, ze_LeqF, ze_Lmlt, ze_Lltm, ze_Lmle, ze_Llem, ze_Lmeq, ze_Leqm, ze_Lmm, lN_add, ze_ch, ze_chd, ze_bt, ze_bf, ze_n0, ze_n1, ze_n2, ze_n3, ze_n4, ze_n5, ze_n6, ze_n7, ze_n8, ze_n9, ze_n10, ze_n11, ze_n12, ze_n13, ze_n14, ze_n15, ze_n16, ze_n17, ze_n18, ze_n19, ze_n20, ze_n21, ze_n22, ze_n23, ze_n24, ze_n25, ze_n26, ze_n27, ze_n28, ze_n29, ze_n30, ze_n31, ze_n32, ze_n33, ze_n34, ze_n35, ze_n36, ze_n37, ze_n38, ze_n39, ze_n40, ze_n48, ze_n63, ze_n64, ze_n65, ze_n80, ze_n100, ze_n128, ze_n200, ze_n255, ze_n300, ze_n320, ze_n384, ze_n400, ze_n512, ze_n1023, ze_n1600, ze_n6400, ze_n9600, ze_n32768, ze_n65535, ze_n65536, ze_n802, ze_n8191, ze_L0, ze_L1, ze_L2, ze_L3, ze_L4, ze_L5, ze_L6, ze_L7, ze_L8, ze_L9, ze_L10, ze_L15, ze_L16, ze_L24, ze_L40, ze_L48, ze_L63, ze_L64, ze_L127, ze_L255, ze_L400, ze_L1024, ze_L2047, ze_L65535]
  rw [e3] at e2
  rw [← Option.some.inj e2] at e1
  show _ = some (_, s)
  simp (disch := omega) only [zs_Converter_plain, zm_kindC a ha, zm_C_unboxed H K X ha hv hn, e1, ↓zd_bnd, ↓zy_bm, if_true, if_false, ite_true, ite_false, ↓reduceIte, Bool.false_eq_true, Bool.true_eq_false, eq_self, true_and, and_true, false_and, and_false, reduceCtorEq, decide_true, decide_false, not_true_eq_false, not_false_eq_true, ze_ltT, ze_ltF, ze_leT, ze_leF, ze_eqT, ze_eqF, ze_mlt, ze_ltm, ze_mle, ze_lem, ze_meq, ze_eqm, ze_mm, ze_mltm, ze_inT, ze_inF, ze_inM, ze_cl, ze_fin, ze_decT, ze_decF, Nat.reduceSub, Nat.reduceMul, nI_add, Nat.add_sub_cancel, Nat.add_assoc, Nat.reduceAdd, ze_r8, ze_r24, ze_r40, ze_r400, ze_l8, ze_l16, ze_l24, ze_l40, ze_sub, ze_am1, ze_es, ze_en, ze_i64, ze_m64, ze_64i, ze_64m, ze_LltT, ze_LltF, ze_LleT, ze_LleF, ze_LeqT, ze_LeqF, ze_Lmlt, ze_Lltm, ze_Lmle, ze_Llem, ze_Lmeq, ze_Leqm, ze_Lmm, lN_add, ze_ch, ze_chd, ze_bt, ze_bf, ze_n0, ze_n1, ze_n2, ze_n3, ze_n4, ze_n5, ze_n6, ze_n7, ze_n8, ze_n9, ze_n10, ze_n11, ze_n12, ze_n13, ze_n14, ze_n15, ze_n16, ze_n17, ze_n18, ze_n19, ze_n20, ze_n21, ze_n22, ze_n23, ze_n24, ze_n25, ze_n26, ze_n27, ze_n28, ze_n29, ze_n30, ze_n31, ze_n32, ze_n33, ze_n34, ze_n35, ze_n36, ze_n37, ze_n38, ze_n39, ze_n40, ze_n48, ze_n63, ze_n64, ze_n65, ze_n80, ze_n100, ze_n128, ze_n200, ze_n255, ze_n300, ze_n320, ze_n384, ze_n400, ze_n512, ze_n1023, ze_n1600, ze_n6400, ze_n9600, ze_n32768, ze_n65535, ze_n65536, ze_n802, ze_n8191, ze_L0, ze_L1, ze_L2, ze_L3, ze_L4, ze_L5, ze_L6, ze_L7, ze_L8, ze_L9, ze_L10, ze_L15, ze_L16, ze_L24, ze_L40, ze_L48, ze_L63, ze_L64, ze_L127, ze_L255, ze_L400, ze_L1024, ze_L2047, ze_L65535]
