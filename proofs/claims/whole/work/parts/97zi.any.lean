/-! a value becomes, by any way -/
theorem zm_hw_down {A : zd_A} (K : zd_ok A) {a b : Nat} (ha : a < zd_T A) (hb : b < zd_T A) (h : zp_hw A a b = 4) : zp_one A a b = 4 ∧ 2 ≤ zp_hw A (zd_of A a) (zd_of A b) := by
  have hT := zd_ok_T K
  have e1 : zp_one A a b = 4 := (zm_hw1 (by omega)).symm.trans h
  refine ⟨e1, ?_⟩
  obtain ⟨l1, l2⟩ := zp_one4 e1
  have o1 := zd_ok_of K a ha l1
  have o2 := zd_ok_of K b hb l2
  have h : (if zp_one A a b = 4 then (if zp_how A 39 (zd_of A a) (zd_of A b) ≤ 1 then zp_how A 39 (zd_of A a) (zd_of A b) else 4) else zp_one A a b) = 4 := h
  rw [if_pos e1] at h
  unfold zp_hw
  rw [zp_how_fuel K 40 39 _ _ (by omega) (by omega) (by omega) (by omega)]
  by_cases c : zp_how A 39 (zd_of A a) (zd_of A b) ≤ 1
  · rw [if_pos c] at h; omega
  · omega
theorem zm_ch_down {A : zd_A} {h : zx_H} (K : zd_ok A) {d a b : Nat} (ha : a < zd_T A) (h4 : zp_one A a b = 4) (hd : a < d) (c : zp_ch A h d a b) : ∃ e, zd_of A a < e ∧ zp_ch A h e (zd_of A a) (zd_of A b) := by
  obtain ⟨l1, l2⟩ := zp_one4 h4
  have o1 := zd_ok_of K a ha l1
  cases d with
  | zero => omega
  | succ d => exact ⟨d, by omega, c.2 h4⟩
theorem zm_fitO_ext {A B : zd_A} (E : zm_ext A B) {b t c : Nat} {f : Nat → Int64} (h : zm_fitO A b t c f) : zm_fitO B b t c f := by
  have e2 : zd_srt B = zd_srt A := by funext i; exact congrFun (congrFun (E.1.1 2 (by decide)) i) 0
  have e3 : zd_sz B = zd_sz A := by funext i; exact congrFun (congrFun (E.1.1 3 (by decide)) i) 0
  have e4 : zd_pt B = zd_pt A := by funext i j; exact congrFun (congrFun (E.1.1 5 (by decide)) i) j
  unfold zm_fitO at h ⊢
  rw [e2, e3, e4]
  exact h
theorem zm_fit_Z {A B : zd_A} (K : zd_ok A) (E : zm_ext A B) {n b : Nat} (hn : n = zd_O B) {x : zm_X} (f : zm_fit A n b x) {h0 s : zx_H} {r : Option (Int64 × zx_H)} (e : zm_CX A h0 n s x r) (G : zm_G) : zm_fitZ B b (zm_toZ G x) := by
  cases x with
  | none => trivial
  | some y =>
    obtain ⟨v, ob⟩ := y
    cases ob with
    | none =>
      have f : if b < 7 then zn_ok b v else v = -lN 1 ∨ (zd_srt A b = 3 ∧ ∃ k, k < zd_sz A b ∧ v = lN k) ∨ (zd_srt A b ≠ 3 ∧ ∃ o, o < zd_O A ∧ zd_ty A o = b ∧ v = lN o) := f
      show zd_val B b v
      refine zm_sA_val E ?_
      by_cases c : b < 7
      · rw [if_pos c] at f; exact (zn_val c v).mpr f
      · rw [if_neg c] at f; exact (zn_valO K (by omega) v).mpr f
    | some q =>
      obtain ⟨t, c, g⟩ := q
      exact ⟨by rw [← hn]; exact e.1, zm_fitO_ext E f⟩
theorem zm_inv_toZ {A B : zd_A} {hc : zx_H} {G : zm_G} (I : zm_inv A hc B G) (x : zm_X) : zm_invZ A hc B G (zm_toZ G x) := by
  cases x with
  | none => trivial
  | some y =>
    obtain ⟨v, ob⟩ := y
    exact ⟨zm_inv_new I ob, Or.inl rfl⟩
/-- lists -/
theorem zm_listM {A B : zd_A} {hc hr : zx_H} (HC : zd_C A hc) (HR : zd_R A hr) (K : zd_ok A) (E : zm_ext A B) {s k : zx_H} {n : Nat} (hn : n = zd_O B) (X : zm_C A hc s n) (Y : zm_R A hr k n) {G : zm_G} (P : zm_CP G s) (R : zm_RP G k) (I : zm_inv A hc B G) {a b : Nat} (ha : a < zd_T A) (hb : b < zd_T A) (h4 : zp_hw A a b = 4) (ch : ∃ d, a < d ∧ zp_ch A hc d a b) {v : Int64} (hv : zd_val A a v) : ∃ z : zm_Z, zm_CZ n s z (zs_Mapper_become (zp_cw (zp_hw A a b)) (nI a) (nI b) v s) ∧ zm_RZ A hr n k z (zs_Ref_become (nI a) (nI b) v k) ∧ zm_fitZ B b z ∧ zm_invZ A hc B G z := by
  have hT := zd_ok_T K
  have hO := zd_ok_O K
  have how := zm_R_how HR K Y ha hb
  have dn := zm_hw_down K ha hb h4
  obtain ⟨l1, l2⟩ := zp_one4 dn.1
  obtain ⟨d, hd, cd⟩ := ch
  have chd := zm_ch_down K ha dn.1 hd cd
  have hs2 := zd_ok_s2 K
  have lo : ∀ t, zd_srt A t = 5 → 15 ≤ t := fun t ht => by
    by_cases c : 15 ≤ t
    · exact c
    · have := zd_ok_low K (t := t) (by omega); omega
  have a15 := lo a l1
  have b15 := lo b l2
  rw [h4] at how ⊢
  rw [show zp_cw 4 = nI 64 from rfl, zm_bc_list]
  rw [show zp_rw 4 = nI 2 from rfl] at how
  have n20 : (nI 2 = nI 0) = False := by decide
  have eb : zg_emp b = -lN 1 := if_neg (by omega)
  have emp := zm_R_empty HR K Y hb
  by_cases hnl : zm_nul a v
  · have nT := zm_R_nulT HR K Y ha hnl
    obtain ⟨_, rfl⟩ := hnl
    refine ⟨some (-lN 1, none, G), ⟨s, ?_, zd_fC_refl _ s, P, X.2.1⟩, ⟨k, ?_, zd_fR_refl _ k, R, Y.2.1⟩, ?_, I, Or.inl rfl⟩
    · simp (disch := omega) only [zs_Mapper_beginList, ↓zd_bnd, ↓zy_bm, if_true, if_false, ite_true, ite_false, ↓reduceIte, Bool.false_eq_true, Bool.true_eq_false, eq_self, true_and, and_true, false_and, and_false, reduceCtorEq, decide_true, decide_false, not_true_eq_false, not_false_eq_true, ze_ltT, ze_ltF, ze_leT, ze_leF, ze_eqT, ze_eqF, ze_mlt, ze_ltm, ze_mle, ze_lem, ze_meq, ze_eqm, ze_mm, ze_mltm, ze_inT, ze_inF, ze_inM, ze_cl, ze_fin, ze_decT, ze_decF, Nat.reduceSub, Nat.reduceMul, nI_add, Nat.add_sub_cancel, Nat.add_assoc, Nat.reduceAdd, ze_r8, ze_r24, ze_r40, ze_r400, ze_l8, ze_l16, ze_l24, ze_l40, ze_sub, ze_am1, ze_es, ze_en, ze_i64, ze_m64, ze_64i, ze_64m, ze_LltT, ze_LltF, ze_LleT, ze_LleF, ze_LeqT, ze_LeqF, ze_Lmlt, ze_Lltm, ze_Lmle, ze_Llem, ze_Lmeq, ze_Leqm, ze_Lmm, lN_add, ze_ch, ze_chd, ze_bt, ze_bf, ze_n0, ze_n1, ze_n2, ze_n3, ze_n4, ze_n5, ze_n6, ze_n7, ze_n8, ze_n9, ze_n10, ze_n11, ze_n12, ze_n13, ze_n14, ze_n15, ze_n16, ze_n17, ze_n18, ze_n19, ze_n20, ze_n21, ze_n22, ze_n23, ze_n24, ze_n25, ze_n26, ze_n27, ze_n28, ze_n29, ze_n30, ze_n31, ze_n32, ze_n33, ze_n34, ze_n35, ze_n36, ze_n37, ze_n38, ze_n39, ze_n40, ze_n48, ze_n63, ze_n64, ze_n65, ze_n80, ze_n100, ze_n128, ze_n200, ze_n255, ze_n300, ze_n320, ze_n384, ze_n400, ze_n512, ze_n1023, ze_n1600, ze_n6400, ze_n9600, ze_n32768, ze_n65535, ze_n65536, ze_n802, ze_n8191, ze_L0, ze_L1, ze_L2, ze_L3, ze_L4, ze_L5, ze_L6, ze_L7, ze_L8, ze_L9, ze_L10, ze_L15, ze_L16, ze_L24, ze_L40, ze_L48, ze_L63, ze_L64, ze_L127, ze_L255, ze_L400, ze_L1024, ze_L2047, ze_L65535]
    · simp (disch := omega) only [zs_Ref_become, zs_Ref_become_J43, how, nT, emp, eb, ↓zd_bnd, ↓zy_bm, if_true, if_false, ite_true, ite_false, ↓reduceIte, Bool.false_eq_true, Bool.true_eq_false, eq_self, true_and, and_true, false_and, and_false, reduceCtorEq, decide_true, decide_false, not_true_eq_false, not_false_eq_true, ze_ltT, ze_ltF, ze_leT, ze_leF, ze_eqT, ze_eqF, ze_mlt, ze_ltm, ze_mle, ze_lem, ze_meq, ze_eqm, ze_mm, ze_mltm, ze_inT, ze_inF, ze_inM, ze_cl, ze_fin, ze_decT, ze_decF, Nat.reduceSub, Nat.reduceMul, nI_add, Nat.add_sub_cancel, Nat.add_assoc, Nat.reduceAdd, ze_r8, ze_r24, ze_r40, ze_r400, ze_l8, ze_l16, ze_l24, ze_l40, ze_sub, ze_am1, ze_es, ze_en, ze_i64, ze_m64, ze_64i, ze_64m, ze_LltT, ze_LltF, ze_LleT, ze_LleF, ze_LeqT, ze_LeqF, ze_Lmlt, ze_Lltm, ze_Lmle, ze_Llem, ze_Lmeq, ze_Leqm, ze_Lmm, lN_add, ze_ch, ze_chd, ze_bt, ze_bf, ze_n0, ze_n1, ze_n2, ze_n3, ze_n4, ze_n5, ze_n6, ze_n7, ze_n8, ze_n9, ze_n10, ze_n11, ze_n12, ze_n13, ze_n14, ze_n15, ze_n16, ze_n17, ze_n18, ze_n19, ze_n20, ze_n21, ze_n22, ze_n23, ze_n24, ze_n25, ze_n26, ze_n27, ze_n28, ze_n29, ze_n30, ze_n31, ze_n32, ze_n33, ze_n34, ze_n35, ze_n36, ze_n37, ze_n38, ze_n39, ze_n40, ze_n48, ze_n63, ze_n64, ze_n65, ze_n80, ze_n100, ze_n128, ze_n200, ze_n255, ze_n300, ze_n320, ze_n384, ze_n400, ze_n512, ze_n1023, ze_n1600, ze_n6400, ze_n9600, ze_n32768, ze_n65535, ze_n65536, ze_n802, ze_n8191, ze_L0, ze_L1, ze_L2, ze_L3, ze_L4, ze_L5, ze_L6, ze_L7, ze_L8, ze_L9, ze_L10, ze_L15, ze_L16, ze_L24, ze_L40, ze_L48, ze_L63, ze_L64, ze_L127, ze_L255, ze_L400, ze_L1024, ze_L2047, ze_L65535]
    · exact zm_sA_val E ((zn_valO K (by omega) _).mpr (Or.inl rfl))
  · have nF := zm_R_nulF HR K Y ha hnl
    obtain ⟨o, h3, h5, rfl⟩ := zm_obj K (by omega) (by omega) hv hnl
    have cnt : zg_cnt A b = 0 := by
      unfold zg_cnt
      rw [if_neg (by omega), if_neg (by omega)]
    have fit : zm_fitO B b b 0 (fun _ => lN 0) := by
      have e2 : zd_srt B = zd_srt A := by funext i; exact congrFun (congrFun (E.1.1 2 (by decide)) i) 0
      unfold zm_fitO
      rw [e2]
      exact ⟨rfl, by omega, by omega, fun z => by omega, fun z => by omega, fun z => by omega, fun _ => rfl⟩
    have i1 := I.1
    have hc4 := X.2.2.2
    have f23 := P.1
    by_cases hn2 : n < 400
    · obtain ⟨s1, e1, e2⟩ := zm_C_create X.2.1 hn2 b (fun _ => lN 0)
      obtain ⟨k1, g1, g2, _⟩ := zm_R_object HR K Y hn2 hb
      rw [cnt] at g2
      have P1 := zm_CP_gC e2.1 P
      have R1 := zm_RP_gR g2.1 R
      obtain ⟨s2, b1, b2, b3, b4⟩ := zm_C_begin P1 (n := n) (m := 16) (o := o) (t := n) (show G.1.1 < 400 by omega) (by omega)
      obtain ⟨k2, d1, d2, d3, d4, d5⟩ := zm_R_wait R1 (m := 16) (o := o) (t := n) (show G.1.1 < 400 by omega) (by omega)
      have e16 : zm_e16 16 = -nI 1 := rfl
      rw [e16] at b1 d1
      have i0 := zm_id P1.1
      refine ⟨some (lN n, some (b, 0, fun _ => lN 0), zm_push G 16 o n), ⟨s2, ?_, zd_fC_trans (zd_gC_f e2.1) (zm_fC_of b3 b4), b2, zm_obC_of hn2 e2 (fun F h1 h2 h3 h4 h5 h6 => b3 F h1 h2 h3 h4 h5) b4⟩, ⟨k2, ?_, zd_fR_trans (zd_gR_f g2.1) (zm_fR_of d3 d4 d5), d2, ?_⟩, ⟨by rw [hn], fit⟩, ?_⟩
      · simp (disch := omega) only [zs_Mapper_beginList, zs_Converter_created, e1, P1.1, i0, b1, ↓zd_bnd, ↓zy_bm, if_true, if_false, ite_true, ite_false, ↓reduceIte, Bool.false_eq_true, Bool.true_eq_false, eq_self, true_and, and_true, false_and, and_false, reduceCtorEq, decide_true, decide_false, not_true_eq_false, not_false_eq_true, ze_ltT, ze_ltF, ze_leT, ze_leF, ze_eqT, ze_eqF, ze_mlt, ze_ltm, ze_mle, ze_lem, ze_meq, ze_eqm, ze_mm, ze_mltm, ze_inT, ze_inF, ze_inM, ze_cl, ze_fin, ze_decT, ze_decF, Nat.reduceSub, Nat.reduceMul, nI_add, Nat.add_sub_cancel, Nat.add_assoc, Nat.reduceAdd, ze_r8, ze_r24, ze_r40, ze_r400, ze_l8, ze_l16, ze_l24, ze_l40, ze_sub, ze_am1, ze_es, ze_en, ze_i64, ze_m64, ze_64i, ze_64m, ze_LltT, ze_LltF, ze_LleT, ze_LleF, ze_LeqT, ze_LeqF, ze_Lmlt, ze_Lltm, ze_Lmle, ze_Llem, ze_Lmeq, ze_Leqm, ze_Lmm, lN_add, ze_ch, ze_chd, ze_bt, ze_bf, ze_n0, ze_n1, ze_n2, ze_n3, ze_n4, ze_n5, ze_n6, ze_n7, ze_n8, ze_n9, ze_n10, ze_n11, ze_n12, ze_n13, ze_n14, ze_n15, ze_n16, ze_n17, ze_n18, ze_n19, ze_n20, ze_n21, ze_n22, ze_n23, ze_n24, ze_n25, ze_n26, ze_n27, ze_n28, ze_n29, ze_n30, ze_n31, ze_n32, ze_n33, ze_n34, ze_n35, ze_n36, ze_n37, ze_n38, ze_n39, ze_n40, ze_n48, ze_n63, ze_n64, ze_n65, ze_n80, ze_n100, ze_n128, ze_n200, ze_n255, ze_n300, ze_n320, ze_n384, ze_n400, ze_n512, ze_n1023, ze_n1600, ze_n6400, ze_n9600, ze_n32768, ze_n65535, ze_n65536, ze_n802, ze_n8191, ze_L0, ze_L1, ze_L2, ze_L3, ze_L4, ze_L5, ze_L6, ze_L7, ze_L8, ze_L9, ze_L10, ze_L15, ze_L16, ze_L24, ze_L40, ze_L48, ze_L63, ze_L64, ze_L127, ze_L255, ze_L400, ze_L1024, ze_L2047, ze_L65535]
      · simp (disch := omega) only [zs_Ref_become, zs_Ref_become_J43, how, nF, g1, d1, ↓zd_bnd, ↓zy_bm, if_true, if_false, ite_true, ite_false, ↓reduceIte, Bool.false_eq_true, Bool.true_eq_false, eq_self, true_and, and_true, false_and, and_false, reduceCtorEq, decide_true, decide_false, not_true_eq_false, not_false_eq_true, ze_ltT, ze_ltF, ze_leT, ze_leF, ze_eqT, ze_eqF, ze_mlt, ze_ltm, ze_mle, ze_lem, ze_meq, ze_eqm, ze_mm, ze_mltm, ze_inT, ze_inF, ze_inM, ze_cl, ze_fin, ze_decT, ze_decF, Nat.reduceSub, Nat.reduceMul, nI_add, Nat.add_sub_cancel, Nat.add_assoc, Nat.reduceAdd, ze_r8, ze_r24, ze_r40, ze_r400, ze_l8, ze_l16, ze_l24, ze_l40, ze_sub, ze_am1, ze_es, ze_en, ze_i64, ze_m64, ze_64i, ze_64m, ze_LltT, ze_LltF, ze_LleT, ze_LleF, ze_LeqT, ze_LeqF, ze_Lmlt, ze_Lltm, ze_Lmle, ze_Llem, ze_Lmeq, ze_Leqm, ze_Lmm, lN_add, ze_ch, ze_chd, ze_bt, ze_bf, ze_n0, ze_n1, ze_n2, ze_n3, ze_n4, ze_n5, ze_n6, ze_n7, ze_n8, ze_n9, ze_n10, ze_n11, ze_n12, ze_n13, ze_n14, ze_n15, ze_n16, ze_n17, ze_n18, ze_n19, ze_n20, ze_n21, ze_n22, ze_n23, ze_n24, ze_n25, ze_n26, ze_n27, ze_n28, ze_n29, ze_n30, ze_n31, ze_n32, ze_n33, ze_n34, ze_n35, ze_n36, ze_n37, ze_n38, ze_n39, ze_n40, ze_n48, ze_n63, ze_n64, ze_n65, ze_n80, ze_n100, ze_n128, ze_n200, ze_n255, ze_n300, ze_n320, ze_n384, ze_n400, ze_n512, ze_n1023, ze_n1600, ze_n6400, ze_n9600, ze_n32768, ze_n65535, ze_n65536, ze_n802, ze_n8191, ze_L0, ze_L1, ze_L2, ze_L3, ze_L4, ze_L5, ze_L6, ze_L7, ze_L8, ze_L9, ze_L10, ze_L15, ze_L16, ze_L24, ze_L40, ze_L48, ze_L63, ze_L64, ze_L127, ze_L255, ze_L400, ze_L1024, ze_L2047, ze_L65535]
      · refine zm_obR_of hn2 (by omega) (by omega) g2 (fun i hi => absurd hi (Nat.not_lt_zero i)) (fun F h1 h2 h3 h4 h5 h6 h7 h8 => d3 F h1 h5 h6 h7 h8) d4 (d5 23 (by decide))
      · subst hn
        have e2 : zd_srt B = zd_srt A := by funext i; exact congrFun (congrFun (E.1.1 2 (by decide)) i) 0
        refine ⟨zm_inv_push I ⟨h3, E.2.1, Nat.lt_succ_self _, Or.inr ?_⟩, Or.inr ⟨fun z => (by cases z), 16, o, zd_O B, rfl⟩⟩
        have ty : zd_ty (zg_newO B b 0 (fun _ => lN 0)) (zd_O B) = b := by rw [zg_newO_ty, if_pos rfl]
        have ln : zd_ln (zg_newO B b 0 (fun _ => lN 0)) (zd_O B) = 0 := by rw [zg_newO_ln, if_pos rfl]
        show (16 : Nat) = 16 ∧ zd_srt A (zd_ty A o) = 5 ∧ zd_srt A (zd_ty (zg_newO B b 0 (fun _ => lN 0)) (zd_O B)) = 5 ∧ zd_ln (zg_newO B b 0 (fun _ => lN 0)) (zd_O B) ≤ 0 ∧ 0 ≤ zd_ln A o ∧ 2 ≤ zp_hw A (zd_of A (zd_ty A o)) (zd_of A (zd_ty (zg_newO B b 0 (fun _ => lN 0)) (zd_O B))) ∧ ∃ d, zd_of A (zd_ty A o) < d ∧ zp_ch A hc d (zd_of A (zd_ty A o)) (zd_of A (zd_ty (zg_newO B b 0 (fun _ => lN 0)) (zd_O B)))
        rw [ty, ln, h5]
        exact ⟨rfl, l1, l2, Nat.le_refl _, Nat.zero_le _, dn.2, chd⟩
    · have hn3 : n = 400 := by omega
      have xO := X.2.1
      have yO := Y.2.1
      rw [hn3] at xO yO
      have W : ∀ x y z, zs_Ref_wait x y z (zx_sI k 24 0 37 (nI 1)) = some (zx_sI k 24 0 37 (nI 1)) := by
        intro x y z
        simp (disch := omega) only [zs_Ref_wait, ↓zd_bnd, ↓zy_bm, if_true, if_false, ite_true, ite_false, ↓reduceIte, Bool.false_eq_true, Bool.true_eq_false, eq_self, true_and, and_true, false_and, and_false, reduceCtorEq, decide_true, decide_false, not_true_eq_false, not_false_eq_true, ze_ltT, ze_ltF, ze_leT, ze_leF, ze_eqT, ze_eqF, ze_mlt, ze_ltm, ze_mle, ze_lem, ze_meq, ze_eqm, ze_mm, ze_mltm, ze_inT, ze_inF, ze_inM, ze_cl, ze_fin, ze_decT, ze_decF, Nat.reduceSub, Nat.reduceMul, nI_add, Nat.add_sub_cancel, Nat.add_assoc, Nat.reduceAdd, ze_r8, ze_r24, ze_r40, ze_r400, ze_l8, ze_l16, ze_l24, ze_l40, ze_sub, ze_am1, ze_es, ze_en, ze_i64, ze_m64, ze_64i, ze_64m, ze_LltT, ze_LltF, ze_LleT, ze_LleF, ze_LeqT, ze_LeqF, ze_Lmlt, ze_Lltm, ze_Lmle, ze_Llem, ze_Lmeq, ze_Leqm, ze_Lmm, lN_add, ze_ch, ze_chd, ze_bt, ze_bf, ze_n0, ze_n1, ze_n2, ze_n3, ze_n4, ze_n5, ze_n6, ze_n7, ze_n8, ze_n9, ze_n10, ze_n11, ze_n12, ze_n13, ze_n14, ze_n15, ze_n16, ze_n17, ze_n18, ze_n19, ze_n20, ze_n21, ze_n22, ze_n23, ze_n24, ze_n25, ze_n26, ze_n27, ze_n28, ze_n29, ze_n30, ze_n31, ze_n32, ze_n33, ze_n34, ze_n35, ze_n36, ze_n37, ze_n38, ze_n39, ze_n40, ze_n48, ze_n63, ze_n64, ze_n65, ze_n80, ze_n100, ze_n128, ze_n200, ze_n255, ze_n300, ze_n320, ze_n384, ze_n400, ze_n512, ze_n1023, ze_n1600, ze_n6400, ze_n9600, ze_n32768, ze_n65535, ze_n65536, ze_n802, ze_n8191, ze_L0, ze_L1, ze_L2, ze_L3, ze_L4, ze_L5, ze_L6, ze_L7, ze_L8, ze_L9, ze_L10, ze_L15, ze_L16, ze_L24, ze_L40, ze_L48, ze_L63, ze_L64, ze_L127, ze_L255, ze_L400, ze_L1024, ze_L2047, ze_L65535, ze_gIs, ze_gIn, ze_gJs, ze_gJn, zd_gI2, zd_gJ1, ze_sII]
      refine ⟨none, ⟨-lN 1, zx_sI s 23 0 2 (nI 1), ?_, zd_fC_I (zd_fC_refl n s) _ (by omega), by simp (disch := omega) only [ze_gIs, ze_gIn, ze_gJs, ze_gJn, zd_gI2, zd_gJ1, ze_sII]⟩, ⟨-lN 1, zx_sI k 24 0 37 (nI 1), ?_, (zm_Rf Y).1, by simp (disch := omega) only [ze_gIs, ze_gIn, ze_gJs, ze_gJn, zd_gI2, zd_gJ1, ze_sII]⟩, trivial, trivial⟩
      · simp (disch := omega) only [zs_Mapper_beginList, zs_Converter_created, zs_Converter_created_J22, zm_C_create0 xO, f23, ↓zd_bnd, ↓zy_bm, if_true, if_false, ite_true, ite_false, ↓reduceIte, Bool.false_eq_true, Bool.true_eq_false, eq_self, true_and, and_true, false_and, and_false, reduceCtorEq, decide_true, decide_false, not_true_eq_false, not_false_eq_true, ze_ltT, ze_ltF, ze_leT, ze_leF, ze_eqT, ze_eqF, ze_mlt, ze_ltm, ze_mle, ze_lem, ze_meq, ze_eqm, ze_mm, ze_mltm, ze_inT, ze_inF, ze_inM, ze_cl, ze_fin, ze_decT, ze_decF, Nat.reduceSub, Nat.reduceMul, nI_add, Nat.add_sub_cancel, Nat.add_assoc, Nat.reduceAdd, ze_r8, ze_r24, ze_r40, ze_r400, ze_l8, ze_l16, ze_l24, ze_l40, ze_sub, ze_am1, ze_es, ze_en, ze_i64, ze_m64, ze_64i, ze_64m, ze_LltT, ze_LltF, ze_LleT, ze_LleF, ze_LeqT, ze_LeqF, ze_Lmlt, ze_Lltm, ze_Lmle, ze_Llem, ze_Lmeq, ze_Leqm, ze_Lmm, lN_add, ze_ch, ze_chd, ze_bt, ze_bf, ze_n0, ze_n1, ze_n2, ze_n3, ze_n4, ze_n5, ze_n6, ze_n7, ze_n8, ze_n9, ze_n10, ze_n11, ze_n12, ze_n13, ze_n14, ze_n15, ze_n16, ze_n17, ze_n18, ze_n19, ze_n20, ze_n21, ze_n22, ze_n23, ze_n24, ze_n25, ze_n26, ze_n27, ze_n28, ze_n29, ze_n30, ze_n31, ze_n32, ze_n33, ze_n34, ze_n35, ze_n36, ze_n37, ze_n38, ze_n39, ze_n40, ze_n48, ze_n63, ze_n64, ze_n65, ze_n80, ze_n100, ze_n128, ze_n200, ze_n255, ze_n300, ze_n320, ze_n384, ze_n400, ze_n512, ze_n1023, ze_n1600, ze_n6400, ze_n9600, ze_n32768, ze_n65535, ze_n65536, ze_n802, ze_n8191, ze_L0, ze_L1, ze_L2, ze_L3, ze_L4, ze_L5, ze_L6, ze_L7, ze_L8, ze_L9, ze_L10, ze_L15, ze_L16, ze_L24, ze_L40, ze_L48, ze_L63, ze_L64, ze_L127, ze_L255, ze_L400, ze_L1024, ze_L2047, ze_L65535]
      · simp (disch := omega) only [zs_Ref_become, zs_Ref_become_J43, how, nF, zm_R_object0 yO, W, ↓zd_bnd, ↓zy_bm, if_true, if_false, ite_true, ite_false, ↓reduceIte, Bool.false_eq_true, Bool.true_eq_false, eq_self, true_and, and_true, false_and, and_false, reduceCtorEq, decide_true, decide_false, not_true_eq_false, not_false_eq_true, ze_ltT, ze_ltF, ze_leT, ze_leF, ze_eqT, ze_eqF, ze_mlt, ze_ltm, ze_mle, ze_lem, ze_meq, ze_eqm, ze_mm, ze_mltm, ze_inT, ze_inF, ze_inM, ze_cl, ze_fin, ze_decT, ze_decF, Nat.reduceSub, Nat.reduceMul, nI_add, Nat.add_sub_cancel, Nat.add_assoc, Nat.reduceAdd, ze_r8, ze_r24, ze_r40, ze_r400, ze_l8, ze_l16, ze_l24, ze_l40, ze_sub, ze_am1, ze_es, ze_en, ze_i64, ze_m64, ze_64i, ze_64m, ze_LltT, ze_LltF, ze_LleT, ze_LleF, ze_LeqT, ze_LeqF, ze_Lmlt, ze_Lltm, ze_Lmle, ze_Llem, ze_Lmeq, ze_Leqm, ze_Lmm, lN_add, ze_ch, ze_chd, ze_bt, ze_bf, ze_n0, ze_n1, ze_n2, ze_n3, ze_n4, ze_n5, ze_n6, ze_n7, ze_n8, ze_n9, ze_n10, ze_n11, ze_n12, ze_n13, ze_n14, ze_n15, ze_n16, ze_n17, ze_n18, ze_n19, ze_n20, ze_n21, ze_n22, ze_n23, ze_n24, ze_n25, ze_n26, ze_n27, ze_n28, ze_n29, ze_n30, ze_n31, ze_n32, ze_n33, ze_n34, ze_n35, ze_n36, ze_n37, ze_n38, ze_n39, ze_n40, ze_n48, ze_n63, ze_n64, ze_n65, ze_n80, ze_n100, ze_n128, ze_n200, ze_n255, ze_n300, ze_n320, ze_n384, ze_n400, ze_n512, ze_n1023, ze_n1600, ze_n6400, ze_n9600, ze_n32768, ze_n65535, ze_n65536, ze_n802, ze_n8191, ze_L0, ze_L1, ze_L2, ze_L3, ze_L4, ze_L5, ze_L6, ze_L7, ze_L8, ze_L9, ze_L10, ze_L15, ze_L16, ze_L24, ze_L40, ze_L48, ze_L63, ze_L64, ze_L127, ze_L255, ze_L400, ze_L1024, ze_L2047, ze_L65535]
/-- a value becomes -/
theorem zm_become {A B : zd_A} {hc hr : zx_H} (HC : zd_C A hc) (HR : zd_R A hr) (K : zd_ok A) (PQ : ∀ m, m < zd_M A → zp_PM A hc m ∧ zp_dm A m = none) (E : zm_ext A B) {s k k0 : zx_H} {n : Nat} (hn : n = zd_O B) (X : zm_C A hc s n) (Y : zm_R A hr k n) {G : zm_G} (P : zm_CP G s) (R : zm_RP G k) (I : zm_inv A hc B G) (HB : zd_C B s) (H0 : zd_R B k0) (KB : zd_ok B) (g0 : k0.1 24 0 37 = nI 0) {a b : Nat} (ha : a < zd_T A) (hb : b < zd_T A) (h2 : 2 ≤ zp_hw A a b) (ch : zp_hw A a b = 4 → ∃ d, a < d ∧ zp_ch A hc d a b) {v : Int64} (hv : zd_val A a v) : ∃ z : zm_Z, zm_CZ n s z (zs_Mapper_become (zp_cw (zp_hw A a b)) (nI a) (nI b) v s) ∧ zm_RZ A hr n k z (zs_Ref_become (nI a) (nI b) v k) ∧ zm_fitZ B b z ∧ zm_invZ A hc B G z := by
  by_cases h4 : zp_hw A a b = 4
  · exact zm_listM HC HR K E hn X Y P R I ha hb h4 (ch h4) hv
  · have hM := zd_ok_M K
    have hF := zd_ok_F K
    have hT := zd_ok_T K
    have XB : zm_C B s s n := ⟨zd_fC_refl _ s, X.2.1, by omega, X.2.2.2⟩
    have YB : zm_R B k0 k0 n := ⟨zd_fR_refl _ k0, by rw [hn]; exact zd_R_O H0, by omega, X.2.2.2⟩
    have eh : zp_hw B = zp_hw A := by rw [zr_eq E.1]; exact zr_hw A _ _
    have eT : zd_T B = zd_T A := congrFun (congrFun (E.1.1 1 (by decide)) 0) 0
    by_cases hm : 200 ≤ zp_hw A a b ∧ zp_hw A a b < 300
    · have e1 := zm_hw1 h2
      have how := zm_R_how HR K Y ha hb
      rcases zm_way K (a := a) (b := b) (by omega) with ⟨hw, _⟩ | ⟨hw, _⟩ | hw | ⟨f, hf, hw, _⟩ | ⟨m, hm2, hw, hma, hmb⟩ | ⟨f, hf, hw, _⟩
      · omega
      · omega
      · omega
      · omega
      · subst hma hmb
        rw [e1, hw] at how ⊢
        rw [zp_cwm (by omega) (by omega), show 200 + m - 168 = 32 + m by omega, zm_bc_met (show m < 16 by omega)]
        rw [zp_rwn (by omega)] at how
        have sub : nI (200 + m) - nI 200 = nI m := by simp (disch := omega) only [Nat.add_sub_cancel_left, ↓zd_bnd, ↓zy_bm, if_true, if_false, ite_true, ite_false, ↓reduceIte, Bool.false_eq_true, Bool.true_eq_false, eq_self, true_and, and_true, false_and, and_false, reduceCtorEq, decide_true, decide_false, not_true_eq_false, not_false_eq_true, ze_ltT, ze_ltF, ze_leT, ze_leF, ze_eqT, ze_eqF, ze_mlt, ze_ltm, ze_mle, ze_lem, ze_meq, ze_eqm, ze_mm, ze_mltm, ze_inT, ze_inF, ze_inM, ze_cl, ze_fin, ze_decT, ze_decF, Nat.reduceSub, Nat.reduceMul, nI_add, Nat.add_sub_cancel, Nat.add_assoc, Nat.reduceAdd, ze_r8, ze_r24, ze_r40, ze_r400, ze_l8, ze_l16, ze_l24, ze_l40, ze_sub, ze_am1, ze_es, ze_en, ze_i64, ze_m64, ze_64i, ze_64m, ze_LltT, ze_LltF, ze_LleT, ze_LleF, ze_LeqT, ze_LeqF, ze_Lmlt, ze_Lltm, ze_Lmle, ze_Llem, ze_Lmeq, ze_Leqm, ze_Lmm, lN_add, ze_ch, ze_chd, ze_bt, ze_bf, ze_n0, ze_n1, ze_n2, ze_n3, ze_n4, ze_n5, ze_n6, ze_n7, ze_n8, ze_n9, ze_n10, ze_n11, ze_n12, ze_n13, ze_n14, ze_n15, ze_n16, ze_n17, ze_n18, ze_n19, ze_n20, ze_n21, ze_n22, ze_n23, ze_n24, ze_n25, ze_n26, ze_n27, ze_n28, ze_n29, ze_n30, ze_n31, ze_n32, ze_n33, ze_n34, ze_n35, ze_n36, ze_n37, ze_n38, ze_n39, ze_n40, ze_n48, ze_n63, ze_n64, ze_n65, ze_n80, ze_n100, ze_n128, ze_n200, ze_n255, ze_n300, ze_n320, ze_n384, ze_n400, ze_n512, ze_n1023, ze_n1600, ze_n6400, ze_n9600, ze_n32768, ze_n65535, ze_n65536, ze_n802, ze_n8191, ze_L0, ze_L1, ze_L2, ze_L3, ze_L4, ze_L5, ze_L6, ze_L7, ze_L8, ze_L9, ze_L10, ze_L15, ze_L16, ze_L24, ze_L40, ze_L48, ze_L63, ze_L64, ze_L127, ze_L255, ze_L400, ze_L1024, ze_L2047, ze_L65535]
        have g : zs_Ref_become (nI (zd_mf A m)) (nI (zd_mt A m)) v k = zs_Ref_mapped (nI m) v k := by
          simp (disch := omega) only [zs_Ref_become, how, sub, ↓zd_bnd, ↓zy_bm, if_true, if_false, ite_true, ite_false, ↓reduceIte, Bool.false_eq_true, Bool.true_eq_false, eq_self, true_and, and_true, false_and, and_false, reduceCtorEq, decide_true, decide_false, not_true_eq_false, not_false_eq_true, ze_ltT, ze_ltF, ze_leT, ze_leF, ze_eqT, ze_eqF, ze_mlt, ze_ltm, ze_mle, ze_lem, ze_meq, ze_eqm, ze_mm, ze_mltm, ze_inT, ze_inF, ze_inM, ze_cl, ze_fin, ze_decT, ze_decF, Nat.reduceSub, Nat.reduceMul, nI_add, Nat.add_sub_cancel, Nat.add_assoc, Nat.reduceAdd, ze_r8, ze_r24, ze_r40, ze_r400, ze_l8, ze_l16, ze_l24, ze_l40, ze_sub, ze_am1, ze_es, ze_en, ze_i64, ze_m64, ze_64i, ze_64m, ze_LltT, ze_LltF, ze_LleT, ze_LleF, ze_LeqT, ze_LeqF, ze_Lmlt, ze_Lltm, ze_Lmle, ze_Llem, ze_Lmeq, ze_Leqm, ze_Lmm, lN_add, ze_ch, ze_chd, ze_bt, ze_bf, ze_n0, ze_n1, ze_n2, ze_n3, ze_n4, ze_n5, ze_n6, ze_n7, ze_n8, ze_n9, ze_n10, ze_n11, ze_n12, ze_n13, ze_n14, ze_n15, ze_n16, ze_n17, ze_n18, ze_n19, ze_n20, ze_n21, ze_n22, ze_n23, ze_n24, ze_n25, ze_n26, ze_n27, ze_n28, ze_n29, ze_n30, ze_n31, ze_n32, ze_n33, ze_n34, ze_n35, ze_n36, ze_n37, ze_n38, ze_n39, ze_n40, ze_n48, ze_n63, ze_n64, ze_n65, ze_n80, ze_n100, ze_n128, ze_n200, ze_n255, ze_n300, ze_n320, ze_n384, ze_n400, ze_n512, ze_n1023, ze_n1600, ze_n6400, ze_n9600, ze_n32768, ze_n65535, ze_n65536, ze_n802, ze_n8191, ze_L0, ze_L1, ze_L2, ze_L3, ze_L4, ze_L5, ze_L6, ze_L7, ze_L8, ze_L9, ze_L10, ze_L15, ze_L16, ze_L24, ze_L40, ze_L48, ze_L63, ze_L64, ze_L127, ze_L255, ze_L400, ze_L1024, ze_L2047, ze_L65535]
          cases zs_Ref_mapped (nI m) v k <;> rfl
        rw [g]
        have hme := zd_ok_m K m hm2
        by_cases c4 : zd_srt A (zd_mt A m) = 4
        · exact zm_beanM HC HR K E hn X Y P R I hm2 (PQ m hm2).1 c4 hv
        · obtain ⟨x, x1, x2, x3, x4⟩ := zm_constM HC HR K E X Y P R hm2 (PQ m hm2).1 (PQ m hm2).2 (by omega) (by omega) hv
          refine ⟨zm_toZ G x, zm_CX_Z X P x1 x4, zm_RX_Z Y R x2, ?_, zm_inv_toZ I x⟩
          cases x with
          | none => trivial
          | some y =>
            obtain ⟨w, ob⟩ := y
            obtain ⟨rfl, q⟩ := x3 w ob rfl
            exact q
      · omega
    · obtain ⟨x, x1, x2, x3⟩ := zm_simple HC HR K X Y P.1 R.1 ha hb h2 h4 hm hv
      obtain ⟨y, y1, _⟩ := zm_simple HB H0 KB XB YB P.1 g0 (a := a) (b := b) (by omega) (by omega) (by rw [eh]; exact h2) (by rw [eh]; exact h4) (by rw [eh]; exact hm) (zm_sA_val E hv)
      rw [eh] at y1
      exact ⟨zm_toZ G x, zm_CX_Z X P x1 (zm_strong hn P.1 x1 y1), zm_RX_Z Y R x2, zm_fit_Z K E hn x3 x1 G, zm_inv_toZ I x⟩
