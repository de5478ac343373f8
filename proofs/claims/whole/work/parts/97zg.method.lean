/-! by a method, by lists -/
def zm_fitZ (B : zd_A) (b : Nat) (z : zm_Z) : Prop := match z with
  | none => True
  | some (v, none, _) => zd_val B b v
  | some (v, some (t, c, f), _) => v = lN (zd_O B) ∧ zm_fitO B b t c f
def zm_invZ (A : zd_A) (h0 : zx_H) (B : zd_A) (G : zm_G) (z : zm_Z) : Prop := match z with
  | none => True
  | some (_, ob, G1) => zm_inv A h0 (zm_new B ob) G1 ∧ (G1 = G ∨ (ob ≠ none ∧ ∃ m o t, G1.1 = (zm_push G m o t).1))
theorem zm_con_val {A : zd_A} (K : zd_ok A) {m : Nat} (hm : m < zd_M A) {c : Nat} {w : Int32} (e : zp_con A m c = some w) : w = -nI 1 ∨ w = -nI 2 ∨ ∃ q, q < zd_sz A (zd_mt A m) ∧ w = nI q := by
  have pl : ∀ (x : Option Nat), (∀ q, x = some q → q < zd_sz A (zd_mt A m)) → zd_e x = -nI 1 ∨ zd_e x = -nI 2 ∨ ∃ q, q < zd_sz A (zd_mt A m) ∧ zd_e x = nI q := by
    intro x h
    cases x with
    | none => exact Or.inl rfl
    | some q => exact Or.inr (Or.inr ⟨q, h q rfl, rfl⟩)
  have vp : ∀ x, zp_vp A (zd_mt A m) x = -nI 1 ∨ zp_vp A (zd_mt A m) x = -nI 2 ∨ ∃ q, q < zd_sz A (zd_mt A m) ∧ zp_vp A (zd_mt A m) x = nI q := by
    intro x
    unfold zp_vp
    by_cases c1 : x = -lN 1
    · rw [if_pos c1]; exact Or.inl rfl
    · rw [if_neg c1]
      by_cases c2 : x = -lN 2
      · rw [if_pos c2]; exact Or.inr (Or.inl rfl)
      · rw [if_neg c2]
        exact pl _ (fun q hq => by unfold zp_plL at hq; exact (zd_first_some.mp hq).1)
  have zpl : ∀ t x q, zd_pl A t x = some q → q < zd_sz A t := fun t x q hq => by unfold zd_pl at hq; exact (zd_first_some.mp hq).1
  unfold zp_con at e
  cases e1 : zp_fr A m 5 (nI c) with
  | some r =>
    rw [e1] at e
    rw [← Option.some.inj e]; exact vp _
  | none =>
    rw [e1] at e
    have e : (match zp_ci A m c with | some q => some (nI q) | none => zp_c2 A m c) = some w := e
    cases e2 : zp_ci A m c with
    | some q =>
      rw [e2] at e
      rw [← Option.some.inj e]
      refine Or.inr (Or.inr ⟨q, ?_, rfl⟩)
      unfold zp_ci at e2
      split at e2
      · split at e2
        · exact zpl _ _ _ e2
        · cases e2
      · cases e2
    | none =>
      rw [e2] at e
      have e : zp_c2 A m c = some w := e
      unfold zp_c2 at e
      split at e
      · next q hq =>
        rw [← Option.some.inj e]
        exact Or.inr (Or.inr ⟨q, zpl _ _ _ hq, rfl⟩)
      · split at e
        · cases e
        · rw [← Option.some.inj e]; exact vp _
theorem zm_built {A : zd_A} {m : Nat} (d : zp_dm A m = none) : zp_ivb A m = true ∧ zp_rok A m := by
  unfold zp_dm at d
  cases e : zp_ivb A m with
  | false => rw [if_pos e] at d; cases d
  | true =>
    rw [if_neg (by rw [e]; decide)] at d
    refine ⟨rfl, ?_⟩
    cases e2 : zd_first (zp_rf A m) (zd_rc A m) with
    | some r => rw [e2] at d; cases d
    | none => exact zp_rok_of e2
theorem zm_sA_val {A B : zd_A} (E : zm_ext A B) {t : Nat} {v : Int64} (h : zd_val A t v) : zd_val B t v := by
  have e2 : zd_srt B = zd_srt A := by funext i; exact congrFun (congrFun (E.1.1 2 (by decide)) i) 0
  have e3 : zd_sz B = zd_sz A := by funext i; exact congrFun (congrFun (E.1.1 3 (by decide)) i) 0
  unfold zd_val at h ⊢
  rw [e2, e3]
  by_cases c : t < 7
  · rw [if_pos c] at h ⊢; exact h
  · rw [if_neg c] at h ⊢
    rcases h with h | h | ⟨h, o, ho, ht, hv⟩
    · exact Or.inl h
    · exact Or.inr (Or.inl h)
    · exact Or.inr (Or.inr ⟨h, o, by have := E.2.1; omega, (E.2.2 o ho).1.trans ht, hv⟩)
/-- by a method of constants -/
theorem zm_constM {A B : zd_A} {hc hr : zx_H} (HC : zd_C A hc) (HR : zd_R A hr) (K : zd_ok A) (E : zm_ext A B) {s k : zx_H} {n : Nat} (X : zm_C A hc s n) (Y : zm_R A hr k n) {G : zm_G} (P : zm_CP G s) (R : zm_RP G k) {m : Nat} (hm : m < zd_M A) (PM : zp_PM A hc m) (D : zp_dm A m = none) (h3 : zd_srt A (zd_mf A m) = 3) (h4 : zd_srt A (zd_mt A m) = 3) {v : Int64} (hv : zd_val A (zd_mf A m) v) : ∃ x : zm_X, zm_CX A hc n s x (zs_Mapper_byMethod (nI m) v s) ∧ zm_RX A hr n k x (zs_Ref_mapped (nI m) v k) ∧ (∀ w ob, x = some (w, ob) → ob = none ∧ zd_val B (zd_mt A m) w) ∧ (x = none → ∃ v2 s1, zs_Mapper_byMethod (nI m) v s = some (v2, s1) ∧ zd_fC n s s1 ∧ s1.1 23 0 2 = nI 1) := by
  have hM := zd_ok_M K
  have hT := zd_ok_T K
  have hme := zd_ok_m K m hm
  have h15 := zm_cst3 K h3 hme.1
  have h15b := zm_cst3 K h4 hme.2.1
  have hz := zd_ok_sz K (zd_mf A m) (by omega)
  have hzb := zd_ok_sz K (zd_mt A m) (by omega)
  have hb := zm_built D
  have c54 := (X.1.1 54 (by decide) (by decide)).1
  have c59 := (X.1.1 59 (by decide) (by decide)).1
  have c30 := (Y.1.1 30 (by decide) (by decide)).1
  have c25 := (Y.1.1 25 (by decide) (by decide)).1
  have hh := zm_C_hasMethod HC K X hm
  have ib := zm_C_isBean HC K X hme.2.1
  have i0 := zm_id R.1
  have f37 := R.1
  have z1 : zx_b true = nI 1 := rfl
  have z0 : zx_b false = nI 0 := rfl
  have n12 : (-nI 1 = -nI 2) = False := by decide
  have n22 : (-nI 2 : Int32).toInt64 = -lN 2 := by decide
  have nq2 : ∀ q, q < 8 → (nI q = -nI 2) = False := by decide +kernel
  have ebn : ¬ zd_srt A (zd_mt A m) = 4 := by omega
  have vB : ∀ w, w = -lN 1 ∨ (∃ q, q < zd_sz A (zd_mt A m) ∧ w = lN q) → zd_val B (zd_mt A m) w := by
    intro w hw
    refine zm_sA_val E ((zn_valO K (by omega) w).mpr ?_)
    rcases hw with hw | ⟨q, hq, hw⟩
    · exact Or.inl hw
    · exact Or.inr (Or.inl ⟨h4, q, hq, hw⟩)
  rcases (zn_valO K (by omega) v).mp hv with e | ⟨_, c, hcz, e⟩ | ⟨e, _⟩
  · subst e
    refine ⟨some (-lN 1, none), ?_, ⟨k, ?_, zd_gR_refl _ k, Y.2.1⟩, fun w ob e => ?_, fun z => by cases z⟩
    · show _ = some (-lN 1, s)
      simp (disch := omega) only [zs_Mapper_byMethod, zs_Mapper_constantOf, hh, c54, zd_C_mt HC, ib, ebn, ↓zd_bnd, ↓zy_bm, if_true, if_false, ite_true, ite_false, ↓reduceIte, Bool.false_eq_true, Bool.true_eq_false, eq_self, true_and, and_true, false_and, and_false, reduceCtorEq, decide_true, decide_false, not_true_eq_false, not_false_eq_true, ze_ltT, ze_ltF, ze_leT, ze_leF, ze_eqT, ze_eqF, ze_mlt, ze_ltm, ze_mle, ze_lem, ze_meq, ze_eqm, ze_mm, ze_mltm, ze_inT, ze_inF, ze_inM, ze_cl, ze_fin, ze_decT, ze_decF, Nat.reduceSub, Nat.reduceMul, nI_add, Nat.add_sub_cancel, Nat.add_assoc, Nat.reduceAdd, ze_r8, ze_r24, ze_r40, ze_r400, ze_l8, ze_l16, ze_l24, ze_l40, ze_sub, ze_am1, ze_es, ze_en, ze_i64, ze_m64, ze_64i, ze_64m, ze_LltT, ze_LltF, ze_LleT, ze_LleF, ze_LeqT, ze_LeqF, ze_Lmlt, ze_Lltm, ze_Lmle, ze_Llem, ze_Lmeq, ze_Leqm, ze_Lmm, lN_add, ze_ch, ze_chd, ze_bt, ze_bf, ze_n0, ze_n1, ze_n2, ze_n3, ze_n4, ze_n5, ze_n6, ze_n7, ze_n8, ze_n9, ze_n10, ze_n11, ze_n12, ze_n13, ze_n14, ze_n15, ze_n16, ze_n17, ze_n18, ze_n19, ze_n20, ze_n21, ze_n22, ze_n23, ze_n24, ze_n25, ze_n26, ze_n27, ze_n28, ze_n29, ze_n30, ze_n31, ze_n32, ze_n33, ze_n34, ze_n35, ze_n36, ze_n37, ze_n38, ze_n39, ze_n40, ze_n48, ze_n63, ze_n64, ze_n65, ze_n80, ze_n100, ze_n128, ze_n200, ze_n255, ze_n300, ze_n320, ze_n384, ze_n400, ze_n512, ze_n1023, ze_n1600, ze_n6400, ze_n9600, ze_n32768, ze_n65535, ze_n65536, ze_n802, ze_n8191, ze_L0, ze_L1, ze_L2, ze_L3, ze_L4, ze_L5, ze_L6, ze_L7, ze_L8, ze_L9, ze_L10, ze_L15, ze_L16, ze_L24, ze_L40, ze_L48, ze_L63, ze_L64, ze_L127, ze_L255, ze_L400, ze_L1024, ze_L2047, ze_L65535]
    · simp (disch := omega) only [zs_Ref_mapped, zs_Ref_mapped_J34, zs_Ref_mapped_J56, c30, c25, zd_R_mf HR, zd_R_srt HR, h3, f37, z0, i0, n12, ↓zd_bnd, ↓zy_bm, if_true, if_false, ite_true, ite_false, ↓reduceIte, Bool.false_eq_true, Bool.true_eq_false, eq_self, true_and, and_true, false_and, and_false, reduceCtorEq, decide_true, decide_false, not_true_eq_false, not_false_eq_true, ze_ltT, ze_ltF, ze_leT, ze_leF, ze_eqT, ze_eqF, ze_mlt, ze_ltm, ze_mle, ze_lem, ze_meq, ze_eqm, ze_mm, ze_mltm, ze_inT, ze_inF, ze_inM, ze_cl, ze_fin, ze_decT, ze_decF, Nat.reduceSub, Nat.reduceMul, nI_add, Nat.add_sub_cancel, Nat.add_assoc, Nat.reduceAdd, ze_r8, ze_r24, ze_r40, ze_r400, ze_l8, ze_l16, ze_l24, ze_l40, ze_sub, ze_am1, ze_es, ze_en, ze_i64, ze_m64, ze_64i, ze_64m, ze_LltT, ze_LltF, ze_LleT, ze_LleF, ze_LeqT, ze_LeqF, ze_Lmlt, ze_Lltm, ze_Lmle, ze_Llem, ze_Lmeq, ze_Leqm, ze_Lmm, lN_add, ze_ch, ze_chd, ze_bt, ze_bf, ze_n0, ze_n1, ze_n2, ze_n3, ze_n4, ze_n5, ze_n6, ze_n7, ze_n8, ze_n9, ze_n10, ze_n11, ze_n12, ze_n13, ze_n14, ze_n15, ze_n16, ze_n17, ze_n18, ze_n19, ze_n20, ze_n21, ze_n22, ze_n23, ze_n24, ze_n25, ze_n26, ze_n27, ze_n28, ze_n29, ze_n30, ze_n31, ze_n32, ze_n33, ze_n34, ze_n35, ze_n36, ze_n37, ze_n38, ze_n39, ze_n40, ze_n48, ze_n63, ze_n64, ze_n65, ze_n80, ze_n100, ze_n128, ze_n200, ze_n255, ze_n300, ze_n320, ze_n384, ze_n400, ze_n512, ze_n1023, ze_n1600, ze_n6400, ze_n9600, ze_n32768, ze_n65535, ze_n65536, ze_n802, ze_n8191, ze_L0, ze_L1, ze_L2, ze_L3, ze_L4, ze_L5, ze_L6, ze_L7, ze_L8, ze_L9, ze_L10, ze_L15, ze_L16, ze_L24, ze_L40, ze_L48, ze_L63, ze_L64, ze_L127, ze_L255, ze_L400, ze_L1024, ze_L2047, ze_L65535]
    · obtain ⟨rfl, rfl⟩ := Prod.mk.inj (Option.some.inj e)
      exact ⟨rfl, vB _ (Or.inl rfl)⟩
  · subst e
    have mem := (PM.2 c (by unfold zp_nm; rw [if_neg ebn]; exact hcz)).2 ebn
    have rc := zm_R_constantOf HR K Y hm hcz hb.1 hb.2
    rw [mem] at rc
    have rc : zs_Ref_constantOf (nI m) (nI c) k = some (hc.1 59 m c) := rc
    have q59 : s.1 59 m c = hc.1 59 m c := by rw [c59]
    have wv := zm_con_val K hm mem
    generalize hc.1 59 m c = w at mem rc q59 wv
    have ft : ∀ w2 : Int64, (w2 = -lN 1 ∨ ∃ q, q < zd_sz A (zd_mt A m) ∧ w2 = lN q) → ∀ w3 ob, (some (w2, none) : zm_X) = some (w3, ob) → ob = none ∧ zd_val B (zd_mt A m) w3 := by
      intro w2 h w3 ob e
      obtain ⟨rfl, rfl⟩ := Prod.mk.inj (Option.some.inj e)
      exact ⟨rfl, vB _ h⟩
    rcases wv with rfl | rfl | ⟨q, hq, rfl⟩
    · refine ⟨some (-lN 1, none), ?_, ⟨k, ?_, zd_gR_refl _ k, Y.2.1⟩, ft _ (Or.inl rfl), fun z => by cases z⟩
      · show _ = some (-lN 1, s)
        simp (disch := omega) only [zs_Mapper_byMethod, zs_Mapper_constantOf, hh, c54, zd_C_mt HC, ib, ebn, q59, n12, ↓zd_bnd, ↓zy_bm, if_true, if_false, ite_true, ite_false, ↓reduceIte, Bool.false_eq_true, Bool.true_eq_false, eq_self, true_and, and_true, false_and, and_false, reduceCtorEq, decide_true, decide_false, not_true_eq_false, not_false_eq_true, ze_ltT, ze_ltF, ze_leT, ze_leF, ze_eqT, ze_eqF, ze_mlt, ze_ltm, ze_mle, ze_lem, ze_meq, ze_eqm, ze_mm, ze_mltm, ze_inT, ze_inF, ze_inM, ze_cl, ze_fin, ze_decT, ze_decF, Nat.reduceSub, Nat.reduceMul, nI_add, Nat.add_sub_cancel, Nat.add_assoc, Nat.reduceAdd, ze_r8, ze_r24, ze_r40, ze_r400, ze_l8, ze_l16, ze_l24, ze_l40, ze_sub, ze_am1, ze_es, ze_en, ze_i64, ze_m64, ze_64i, ze_64m, ze_LltT, ze_LltF, ze_LleT, ze_LleF, ze_LeqT, ze_LeqF, ze_Lmlt, ze_Lltm, ze_Lmle, ze_Llem, ze_Lmeq, ze_Leqm, ze_Lmm, lN_add, ze_ch, ze_chd, ze_bt, ze_bf, ze_n0, ze_n1, ze_n2, ze_n3, ze_n4, ze_n5, ze_n6, ze_n7, ze_n8, ze_n9, ze_n10, ze_n11, ze_n12, ze_n13, ze_n14, ze_n15, ze_n16, ze_n17, ze_n18, ze_n19, ze_n20, ze_n21, ze_n22, ze_n23, ze_n24, ze_n25, ze_n26, ze_n27, ze_n28, ze_n29, ze_n30, ze_n31, ze_n32, ze_n33, ze_n34, ze_n35, ze_n36, ze_n37, ze_n38, ze_n39, ze_n40, ze_n48, ze_n63, ze_n64, ze_n65, ze_n80, ze_n100, ze_n128, ze_n200, ze_n255, ze_n300, ze_n320, ze_n384, ze_n400, ze_n512, ze_n1023, ze_n1600, ze_n6400, ze_n9600, ze_n32768, ze_n65535, ze_n65536, ze_n802, ze_n8191, ze_L0, ze_L1, ze_L2, ze_L3, ze_L4, ze_L5, ze_L6, ze_L7, ze_L8, ze_L9, ze_L10, ze_L15, ze_L16, ze_L24, ze_L40, ze_L48, ze_L63, ze_L64, ze_L127, ze_L255, ze_L400, ze_L1024, ze_L2047, ze_L65535]
      · simp (disch := omega) only [zs_Ref_mapped, zs_Ref_mapped_J34, zs_Ref_mapped_J56, c30, c25, zd_R_mf HR, zd_R_srt HR, h3, f37, z0, i0, rc, n12, ↓zd_bnd, ↓zy_bm, if_true, if_false, ite_true, ite_false, ↓reduceIte, Bool.false_eq_true, Bool.true_eq_false, eq_self, true_and, and_true, false_and, and_false, reduceCtorEq, decide_true, decide_false, not_true_eq_false, not_false_eq_true, ze_ltT, ze_ltF, ze_leT, ze_leF, ze_eqT, ze_eqF, ze_mlt, ze_ltm, ze_mle, ze_lem, ze_meq, ze_eqm, ze_mm, ze_mltm, ze_inT, ze_inF, ze_inM, ze_cl, ze_fin, ze_decT, ze_decF, Nat.reduceSub, Nat.reduceMul, nI_add, Nat.add_sub_cancel, Nat.add_assoc, Nat.reduceAdd, ze_r8, ze_r24, ze_r40, ze_r400, ze_l8, ze_l16, ze_l24, ze_l40, ze_sub, ze_am1, ze_es, ze_en, ze_i64, ze_m64, ze_64i, ze_64m, ze_LltT, ze_LltF, ze_LleT, ze_LleF, ze_LeqT, ze_LeqF, ze_Lmlt, ze_Lltm, ze_Lmle, ze_Llem, ze_Lmeq, ze_Leqm, ze_Lmm, lN_add, ze_ch, ze_chd, ze_bt, ze_bf, ze_n0, ze_n1, ze_n2, ze_n3, ze_n4, ze_n5, ze_n6, ze_n7, ze_n8, ze_n9, ze_n10, ze_n11, ze_n12, ze_n13, ze_n14, ze_n15, ze_n16, ze_n17, ze_n18, ze_n19, ze_n20, ze_n21, ze_n22, ze_n23, ze_n24, ze_n25, ze_n26, ze_n27, ze_n28, ze_n29, ze_n30, ze_n31, ze_n32, ze_n33, ze_n34, ze_n35, ze_n36, ze_n37, ze_n38, ze_n39, ze_n40, ze_n48, ze_n63, ze_n64, ze_n65, ze_n80, ze_n100, ze_n128, ze_n200, ze_n255, ze_n300, ze_n320, ze_n384, ze_n400, ze_n512, ze_n1023, ze_n1600, ze_n6400, ze_n9600, ze_n32768, ze_n65535, ze_n65536, ze_n802, ze_n8191, ze_L0, ze_L1, ze_L2, ze_L3, ze_L4, ze_L5, ze_L6, ze_L7, ze_L8, ze_L9, ze_L10, ze_L15, ze_L16, ze_L24, ze_L40, ze_L48, ze_L63, ze_L64, ze_L127, ze_L255, ze_L400, ze_L1024, ze_L2047, ze_L65535]
    · have bm : zs_Mapper_byMethod (nI m) (lN c) s = some (-lN 2, zx_sI s 23 0 2 (nI 1)) := by
        simp (disch := omega) only [zs_Mapper_byMethod, zs_Mapper_constantOf, hh, c54, zd_C_mt HC, ib, ebn, q59, n22, nq2, ↓zd_bnd, ↓zy_bm, if_true, if_false, ite_true, ite_false, ↓reduceIte, Bool.false_eq_true, Bool.true_eq_false, eq_self, true_and, and_true, false_and, and_false, reduceCtorEq, decide_true, decide_false, not_true_eq_false, not_false_eq_true, ze_ltT, ze_ltF, ze_leT, ze_leF, ze_eqT, ze_eqF, ze_mlt, ze_ltm, ze_mle, ze_lem, ze_meq, ze_eqm, ze_mm, ze_mltm, ze_inT, ze_inF, ze_inM, ze_cl, ze_fin, ze_decT, ze_decF, Nat.reduceSub, Nat.reduceMul, nI_add, Nat.add_sub_cancel, Nat.add_assoc, Nat.reduceAdd, ze_r8, ze_r24, ze_r40, ze_r400, ze_l8, ze_l16, ze_l24, ze_l40, ze_sub, ze_am1, ze_es, ze_en, ze_i64, ze_m64, ze_64i, ze_64m, ze_LltT, ze_LltF, ze_LleT, ze_LleF, ze_LeqT, ze_LeqF, ze_Lmlt, ze_Lltm, ze_Lmle, ze_Llem, ze_Lmeq, ze_Leqm, ze_Lmm, lN_add, ze_ch, ze_chd, ze_bt, ze_bf, ze_n0, ze_n1, ze_n2, ze_n3, ze_n4, ze_n5, ze_n6, ze_n7, ze_n8, ze_n9, ze_n10, ze_n11, ze_n12, ze_n13, ze_n14, ze_n15, ze_n16, ze_n17, ze_n18, ze_n19, ze_n20, ze_n21, ze_n22, ze_n23, ze_n24, ze_n25, ze_n26, ze_n27, ze_n28, ze_n29, ze_n30, ze_n31, ze_n32, ze_n33, ze_n34, ze_n35, ze_n36, ze_n37, ze_n38, ze_n39, ze_n40, ze_n48, ze_n63, ze_n64, ze_n65, ze_n80, ze_n100, ze_n128, ze_n200, ze_n255, ze_n300, ze_n320, ze_n384, ze_n400, ze_n512, ze_n1023, ze_n1600, ze_n6400, ze_n9600, ze_n32768, ze_n65535, ze_n65536, ze_n802, ze_n8191, ze_L0, ze_L1, ze_L2, ze_L3, ze_L4, ze_L5, ze_L6, ze_L7, ze_L8, ze_L9, ze_L10, ze_L15, ze_L16, ze_L24, ze_L40, ze_L48, ze_L63, ze_L64, ze_L127, ze_L255, ze_L400, ze_L1024, ze_L2047, ze_L65535]
      refine ⟨none, ⟨-lN 2, zx_sI s 23 0 2 (nI 1), bm, (zm_Cf X).1, by simp (disch := omega) only [ze_gIs, ze_gIn, ze_gJs, ze_gJn, zd_gI2, zd_gJ1, ze_sII]⟩, ⟨-lN 2, zx_sI k 24 0 37 (nI 1), ?_, (zm_Rf Y).1, by simp (disch := omega) only [ze_gIs, ze_gIn, ze_gJs, ze_gJn, zd_gI2, zd_gJ1, ze_sII]⟩, fun _ _ e => (by cases e), fun _ => ⟨-lN 2, zx_sI s 23 0 2 (nI 1), bm, zd_fC_I (zd_fC_refl n s) _ (by omega), by simp (disch := omega) only [ze_gIs, ze_gIn, ze_gJs, ze_gJn, zd_gI2, zd_gJ1, ze_sII]⟩⟩
      · simp (disch := omega) only [zs_Ref_mapped, zs_Ref_mapped_J34, zs_Ref_mapped_J51, zs_Ref_mapped_J56, c30, c25, zd_R_mf HR, zd_R_srt HR, h3, f37, z1, rc, n22, ↓zd_bnd, ↓zy_bm, if_true, if_false, ite_true, ite_false, ↓reduceIte, Bool.false_eq_true, Bool.true_eq_false, eq_self, true_and, and_true, false_and, and_false, reduceCtorEq, decide_true, decide_false, not_true_eq_false, not_false_eq_true, ze_ltT, ze_ltF, ze_leT, ze_leF, ze_eqT, ze_eqF, ze_mlt, ze_ltm, ze_mle, ze_lem, ze_meq, ze_eqm, ze_mm, ze_mltm, ze_inT, ze_inF, ze_inM, ze_cl, ze_fin, ze_decT, ze_decF, Nat.reduceSub, Nat.reduceMul, nI_add, Nat.add_sub_cancel, Nat.add_assoc, Nat.reduceAdd, ze_r8, ze_r24, ze_r40, ze_r400, ze_l8, ze_l16, ze_l24, ze_l40, ze_sub, ze_am1, ze_es, ze_en, ze_i64, ze_m64, ze_64i, ze_64m, ze_LltT, ze_LltF, ze_LleT, ze_LleF, ze_LeqT, ze_LeqF, ze_Lmlt, ze_Lltm, ze_Lmle, ze_Llem, ze_Lmeq, ze_Leqm, ze_Lmm, lN_add, ze_ch, ze_chd, ze_bt, ze_bf, ze_n0, ze_n1, ze_n2, ze_n3, ze_n4, ze_n5, ze_n6, ze_n7, ze_n8, ze_n9, ze_n10, ze_n11, ze_n12, ze_n13, ze_n14, ze_n15, ze_n16, ze_n17, ze_n18, ze_n19, ze_n20, ze_n21, ze_n22, ze_n23, ze_n24, ze_n25, ze_n26, ze_n27, ze_n28, ze_n29, ze_n30, ze_n31, ze_n32, ze_n33, ze_n34, ze_n35, ze_n36, ze_n37, ze_n38, ze_n39, ze_n40, ze_n48, ze_n63, ze_n64, ze_n65, ze_n80, ze_n100, ze_n128, ze_n200, ze_n255, ze_n300, ze_n320, ze_n384, ze_n400, ze_n512, ze_n1023, ze_n1600, ze_n6400, ze_n9600, ze_n32768, ze_n65535, ze_n65536, ze_n802, ze_n8191, ze_L0, ze_L1, ze_L2, ze_L3, ze_L4, ze_L5, ze_L6, ze_L7, ze_L8, ze_L9, ze_L10, ze_L15, ze_L16, ze_L24, ze_L40, ze_L48, ze_L63, ze_L64, ze_L127, ze_L255, ze_L400, ze_L1024, ze_L2047, ze_L65535]
    · refine ⟨some (lN q, none), ?_, ⟨k, ?_, zd_gR_refl _ k, Y.2.1⟩, ft _ (Or.inr ⟨q, hq, rfl⟩), fun z => by cases z⟩
      · show _ = some (lN q, s)
        simp (disch := omega) only [zs_Mapper_byMethod, zs_Mapper_constantOf, hh, c54, zd_C_mt HC, ib, ebn, q59, n22, nq2, ↓zd_bnd, ↓zy_bm, if_true, if_false, ite_true, ite_false, ↓reduceIte, Bool.false_eq_true, Bool.true_eq_false, eq_self, true_and, and_true, false_and, and_false, reduceCtorEq, decide_true, decide_false, not_true_eq_false, not_false_eq_true, ze_ltT, ze_ltF, ze_leT, ze_leF, ze_eqT, ze_eqF, ze_mlt, ze_ltm, ze_mle, ze_lem, ze_meq, ze_eqm, ze_mm, ze_mltm, ze_inT, ze_inF, ze_inM, ze_cl, ze_fin, ze_decT, ze_decF, Nat.reduceSub, Nat.reduceMul, nI_add, Nat.add_sub_cancel, Nat.add_assoc, Nat.reduceAdd, ze_r8, ze_r24, ze_r40, ze_r400, ze_l8, ze_l16, ze_l24, ze_l40, ze_sub, ze_am1, ze_es, ze_en, ze_i64, ze_m64, ze_64i, ze_64m, ze_LltT, ze_LltF, ze_LleT, ze_LleF, ze_LeqT, ze_LeqF, ze_Lmlt, ze_Lltm, ze_Lmle, ze_Llem, ze_Lmeq, ze_Leqm, ze_Lmm, lN_add, ze_ch, ze_chd, ze_bt, ze_bf, ze_n0, ze_n1, ze_n2, ze_n3, ze_n4, ze_n5, ze_n6, ze_n7, ze_n8, ze_n9, ze_n10, ze_n11, ze_n12, ze_n13, ze_n14, ze_n15, ze_n16, ze_n17, ze_n18, ze_n19, ze_n20, ze_n21, ze_n22, ze_n23, ze_n24, ze_n25, ze_n26, ze_n27, ze_n28, ze_n29, ze_n30, ze_n31, ze_n32, ze_n33, ze_n34, ze_n35, ze_n36, ze_n37, ze_n38, ze_n39, ze_n40, ze_n48, ze_n63, ze_n64, ze_n65, ze_n80, ze_n100, ze_n128, ze_n200, ze_n255, ze_n300, ze_n320, ze_n384, ze_n400, ze_n512, ze_n1023, ze_n1600, ze_n6400, ze_n9600, ze_n32768, ze_n65535, ze_n65536, ze_n802, ze_n8191, ze_L0, ze_L1, ze_L2, ze_L3, ze_L4, ze_L5, ze_L6, ze_L7, ze_L8, ze_L9, ze_L10, ze_L15, ze_L16, ze_L24, ze_L40, ze_L48, ze_L63, ze_L64, ze_L127, ze_L255, ze_L400, ze_L1024, ze_L2047, ze_L65535]
      · simp (disch := omega) only [zs_Ref_mapped, zs_Ref_mapped_J34, zs_Ref_mapped_J56, c30, c25, zd_R_mf HR, zd_R_srt HR, h3, f37, z0, i0, rc, nq2, ↓zd_bnd, ↓zy_bm, if_true, if_false, ite_true, ite_false, ↓reduceIte, Bool.false_eq_true, Bool.true_eq_false, eq_self, true_and, and_true, false_and, and_false, reduceCtorEq, decide_true, decide_false, not_true_eq_false, not_false_eq_true, ze_ltT, ze_ltF, ze_leT, ze_leF, ze_eqT, ze_eqF, ze_mlt, ze_ltm, ze_mle, ze_lem, ze_meq, ze_eqm, ze_mm, ze_mltm, ze_inT, ze_inF, ze_inM, ze_cl, ze_fin, ze_decT, ze_decF, Nat.reduceSub, Nat.reduceMul, nI_add, Nat.add_sub_cancel, Nat.add_assoc, Nat.reduceAdd, ze_r8, ze_r24, ze_r40, ze_r400, ze_l8, ze_l16, ze_l24, ze_l40, ze_sub, ze_am1, ze_es, ze_en, ze_i64, ze_m64, ze_64i, ze_64m, ze_LltT, ze_LltF, ze_LleT, ze_LleF, ze_LeqT, ze_LeqF, ze_Lmlt, ze_Lltm, ze_Lmle, ze_Llem, ze_Lmeq, ze_Leqm, ze_Lmm, lN_add, ze_ch, ze_chd, ze_bt, ze_bf, ze_n0, ze_n1, ze_n2, ze_n3, ze_n4, ze_n5, ze_n6, ze_n7, ze_n8, ze_n9, ze_n10, ze_n11, ze_n12, ze_n13, ze_n14, ze_n15, ze_n16, ze_n17, ze_n18, ze_n19, ze_n20, ze_n21, ze_n22, ze_n23, ze_n24, ze_n25, ze_n26, ze_n27, ze_n28, ze_n29, ze_n30, ze_n31, ze_n32, ze_n33, ze_n34, ze_n35, ze_n36, ze_n37, ze_n38, ze_n39, ze_n40, ze_n48, ze_n63, ze_n64, ze_n65, ze_n80, ze_n100, ze_n128, ze_n200, ze_n255, ze_n300, ze_n320, ze_n384, ze_n400, ze_n512, ze_n1023, ze_n1600, ze_n6400, ze_n9600, ze_n32768, ze_n65535, ze_n65536, ze_n802, ze_n8191, ze_L0, ze_L1, ze_L2, ze_L3, ze_L4, ze_L5, ze_L6, ze_L7, ze_L8, ze_L9, ze_L10, ze_L15, ze_L16, ze_L24, ze_L40, ze_L48, ze_L63, ze_L64, ze_L127, ze_L255, ze_L400, ze_L1024, ze_L2047, ze_L65535]
  · exact absurd h3 e
