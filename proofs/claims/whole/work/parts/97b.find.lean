/-! how the class finds a way, and what it notes of it -/
/-- only ways found are noted, and rightly -/
def zp_ft (A : zd_A) (h k : zx_H) : Prop := (∀ F, F ≠ 15 → k.1 F = h.1 F) ∧ k.2 = h.2 ∧ ∀ a b, a < zd_T A → b < zd_T A → k.1 15 0 (40 * a + b) = h.1 15 0 (40 * a + b) ∨ k.1 15 0 (40 * a + b) = zp_cw (zp_one A a b)
theorem zp_ft_refl (A : zd_A) (h : zx_H) : zp_ft A h h := ⟨fun _ _ => rfl, rfl, fun _ _ _ _ => Or.inl rfl⟩
theorem zp_ft_trans {A : zd_A} {h k l : zx_H} (x : zp_ft A h k) (y : zp_ft A k l) : zp_ft A h l := ⟨fun F hF => (y.1 F hF).trans (x.1 F hF), y.2.1.trans x.2.1, fun a b ha hb => by
  rcases y.2.2 a b ha hb with e | e
  · rw [e]; exact x.2.2 a b ha hb
  · exact Or.inr e⟩
theorem zp_ft_k {A : zd_A} {h k : zx_H} (x : zp_ft A h k) : zd_kC h k := ⟨fun F hF => x.1 F (by omega), x.1 16 (by decide), fun i j _ => by rw [x.1 53 (by decide)], fun i j _ => by rw [x.1 54 (by decide)], x.1 55 (by decide), x.1 56 (by decide), by rw [x.2.1], by rw [x.2.1]⟩
theorem zp_ft_N {A : zd_A} {h k : zx_H} (x : zp_ft A h k) (N : zp_N A h) : zp_N A k := fun f hf => by rw [x.1 53 (by decide)]; exact N f hf
theorem zp_ft_set {A : zd_A} (K : zd_ok A) (h : zx_H) {a b : Nat} (ha : a < zd_T A) (hb : b < zd_T A) : zp_ft A h (zx_sI h 15 0 (40 * a + b) (zp_cw (zp_one A a b))) := by
  have hT := zd_ok_T K
  refine ⟨fun F hF => ze_sIF _ _ _ _ hF, rfl, fun c d hc hd => ?_⟩
  by_cases e : c = a ∧ d = b
  · obtain ⟨rfl, rfl⟩ := e
    exact Or.inr (ze_gIs _ _ _ _ _)
  · exact Or.inl (ze_gIn _ _ _ _ _ _ _ _ (by omega))
/-- the chain of lists from a pair on is noted -/
def zp_ch (A : zd_A) (h : zx_H) : Nat → Nat → Nat → Prop
  | 0, _, _ => True
  | n + 1, a, b => h.1 15 0 (40 * a + b) = zp_cw (zp_one A a b) ∧ (zp_one A a b = 4 → zp_ch A h n (zd_of A a) (zd_of A b))
theorem zp_ch_ft {A : zd_A} (K : zd_ok A) {h k : zx_H} (x : zp_ft A h k) : ∀ n a b, a < zd_T A → b < zd_T A → zp_ch A h n a b → zp_ch A k n a b := by
  intro n
  induction n with
  | zero => exact fun _ _ _ _ _ => trivial
  | succ n ih =>
    intro a b ha hb c
    refine ⟨?_, fun h4 => ?_⟩
    · rcases x.2.2 a b ha hb with e | e
      · rw [e]; exact c.1
      · exact e
    · obtain ⟨l1, l2⟩ := zp_one4 h4
      have o1 := zd_ok_of K a ha l1
      have o2 := zd_ok_of K b hb l2
      exact ih _ _ (by omega) (by omega) (c.2 h4)
theorem zp_cwne {A : zd_A} (K : zd_ok A) {x : Nat} (h : x ≤ 4 ∨ 100 ≤ x ∧ x < 100 + zd_F A ∨ 200 ≤ x ∧ x < 200 + zd_M A ∨ 300 ≤ x ∧ x < 300 + zd_F A) (h0 : x ≠ 0) : (zp_cw x = -nI 1) = False := by
  have hM := zd_ok_M K
  have hF := zd_ok_F K
  by_cases h1 : x = 1
  · subst h1; exact ze_m2m1
  · by_cases h2 : x = 2
    · subst h2; decide
    · by_cases h3 : x = 3
      · subst h3; decide
      · by_cases h4 : x = 4
        · subst h4; decide
        · rcases h with h | h | h | h
          · omega
          · rw [zp_cwf (by omega) (by omega)]; exact ze_eqm (by omega)
          · rw [zp_cwm (by omega) (by omega)]; exact ze_eqm (by omega)
          · rw [zp_cwb (by omega)]; exact ze_eqm (by omega)
theorem zp_cw_ge {A : zd_A} (K : zd_ok A) {x : Nat} (h : x ≤ 4 ∨ 100 ≤ x ∧ x < 100 + zd_F A ∨ 200 ≤ x ∧ x < 200 + zd_M A ∨ 300 ≤ x ∧ x < 300 + zd_F A) (h0 : ¬ x ≤ 1) : (nI 0 ≤ zp_cw x) = True := by
  have hM := zd_ok_M K
  have hF := zd_ok_F K
  by_cases h2 : x = 2
  · subst h2; decide
  · by_cases h3 : x = 3
    · subst h3; decide
    · by_cases h4 : x = 4
      · subst h4; decide
      · rcases h with h | h | h | h
        · omega
        · rw [zp_cwf (by omega) (by omega)]; exact ze_leT (by omega) (by omega)
        · rw [zp_cwm (by omega) (by omega)]; exact ze_leT (by omega) (by omega)
        · rw [zp_cwb (by omega)]; exact ze_leT (by omega) (by omega)
theorem zp_cw_lt {w : Nat} (h : w ≤ 1) : (nI 0 ≤ zp_cw w) = False := by
  by_cases h0 : w = 0
  · subst h0; decide
  · have : w = 1 := by omega
    subst this; decide
/-- one turn of find, up to where it notes -/
theorem zp_find_turn {A : zd_A} {h : zx_H} (H : zd_C A h) (K : zd_ok A) (N : zp_N A h) {a b : Nat} (ha : a < zd_T A) (hb : b < zd_T A) (k8 : Int32 → Int32 → Int32 → zx_H → Option (Int32 × zx_H)) {d : Nat} (hd : d < 40) : zs_Ways_find_L8_body k8 (nI a) (nI b) (nI d) h = zs_Ways_find_J184 k8 (nI a) (nI b) (nI d) (if zp_one A a b = 4 then -nI 1 else zp_cw (zp_one A a b)) (decide (zp_one A a b = 4)) (zx_sI h 15 0 (40 * a + b) (zp_cw (zp_one A a b))) := by
  have hT := zd_ok_T K
  have hM := zd_ok_M K
  have hF := zd_ok_F K
  have r0 := zp_one_rng K a b
  have f1 := zp_fw_f_rng A a b
  have f2 := zp_mw_rng A a b
  have f3 := zp_fw_t_rng A a b
  have e := zp_one_eq A a b
  by_cases c0 : a = b
  · rw [if_pos c0] at e
    rw [e, if_neg (by decide), zp_cw2]
    simp (disch := omega) only [zs_Ways_find_L8_body, zs_Ways_find_J33, zs_Ways_find_J53, zs_Ways_find_J76, zs_Ways_find_J78, zs_Ways_find_J99, zs_Ways_find_J134, zs_Ways_find_J135, zs_Ways_find_J183, zd_C_exists H K, ↓zd_bnd, ↓zy_bm, if_true, if_false, ite_true, ite_false, ↓reduceIte, Bool.false_eq_true, Bool.true_eq_false, eq_self, true_and, and_true, false_and, and_false, reduceCtorEq, decide_true, decide_false, not_true_eq_false, not_false_eq_true, ze_ltT, ze_ltF, ze_leT, ze_leF, ze_eqT, ze_eqF, ze_mlt, ze_ltm, ze_mle, ze_lem, ze_meq, ze_eqm, ze_mm, ze_mltm, ze_inT, ze_inF, ze_inM, ze_cl, ze_fin, ze_decT, ze_decF, Nat.reduceSub, Nat.reduceMul, nI_add, Nat.add_sub_cancel, Nat.add_assoc, Nat.reduceAdd, ze_r8, ze_r24, ze_r40, ze_r400, ze_l8, ze_l16, ze_l24, ze_l40, ze_sub, ze_am1, ze_es, ze_en, ze_i64, ze_m64, ze_64i, ze_64m, ze_LltT, ze_LltF, ze_LleT, ze_LleF, ze_LeqT, ze_LeqF, ze_Lmlt, ze_Lltm, ze_Lmle, ze_Llem, ze_Lmeq, ze_Leqm, ze_Lmm, lN_add, ze_ch, ze_chd, ze_bt, ze_bf, ze_n0, ze_n1, ze_n2, ze_n3, ze_n4, ze_n5, ze_n6, ze_n7, ze_n8, ze_n9, ze_n10, ze_n11, ze_n12, ze_n13, ze_n14, ze_n15, ze_n16, ze_n17, ze_n18, ze_n19, ze_n20, ze_n21, ze_n22, ze_n23, ze_n24, ze_n25, ze_n26, ze_n27, ze_n28, ze_n29, ze_n30, ze_n31, ze_n32, ze_n33, ze_n34, ze_n35, ze_n36, ze_n37, ze_n38, ze_n39, ze_n40, ze_n48, ze_n63, ze_n64, ze_n65, ze_n80, ze_n100, ze_n128, ze_n200, ze_n255, ze_n300, ze_n320, ze_n384, ze_n400, ze_n512, ze_n1023, ze_n1600, ze_n6400, ze_n9600, ze_n32768, ze_n65535, ze_n65536, ze_n802, ze_n8191, ze_L0, ze_L1, ze_L2, ze_L3, ze_L4, ze_L5, ze_L6, ze_L7, ze_L8, ze_L9, ze_L10, ze_L15, ze_L16, ze_L24, ze_L40, ze_L48, ze_L63, ze_L64, ze_L127, ze_L255, ze_L400, ze_L1024, ze_L2047, ze_L65535]
  rw [if_neg c0] at e
  by_cases c1 : zp_fw A a b false = 0
  case neg =>
    rw [if_pos c1] at e
    have n0 := zp_cwne K (x := zp_fw A a b false) (by omega) c1
    rw [e, if_neg (by omega), decide_eq_false (by omega)]
    simp (disch := omega) only [zs_Ways_find_L8_body, zs_Ways_find_J33, zs_Ways_find_J53, zs_Ways_find_J76, zs_Ways_find_J78, zs_Ways_find_J99, zs_Ways_find_J134, zs_Ways_find_J135, zs_Ways_find_J183, zd_C_exists H K, zp_C_fw0 H K N, n0, ↓zd_bnd, ↓zy_bm, if_true, if_false, ite_true, ite_false, ↓reduceIte, Bool.false_eq_true, Bool.true_eq_false, eq_self, true_and, and_true, false_and, and_false, reduceCtorEq, decide_true, decide_false, not_true_eq_false, not_false_eq_true, ze_ltT, ze_ltF, ze_leT, ze_leF, ze_eqT, ze_eqF, ze_mlt, ze_ltm, ze_mle, ze_lem, ze_meq, ze_eqm, ze_mm, ze_mltm, ze_inT, ze_inF, ze_inM, ze_cl, ze_fin, ze_decT, ze_decF, Nat.reduceSub, Nat.reduceMul, nI_add, Nat.add_sub_cancel, Nat.add_assoc, Nat.reduceAdd, ze_r8, ze_r24, ze_r40, ze_r400, ze_l8, ze_l16, ze_l24, ze_l40, ze_sub, ze_am1, ze_es, ze_en, ze_i64, ze_m64, ze_64i, ze_64m, ze_LltT, ze_LltF, ze_LleT, ze_LleF, ze_LeqT, ze_LeqF, ze_Lmlt, ze_Lltm, ze_Lmle, ze_Llem, ze_Lmeq, ze_Leqm, ze_Lmm, lN_add, ze_ch, ze_chd, ze_bt, ze_bf, ze_n0, ze_n1, ze_n2, ze_n3, ze_n4, ze_n5, ze_n6, ze_n7, ze_n8, ze_n9, ze_n10, ze_n11, ze_n12, ze_n13, ze_n14, ze_n15, ze_n16, ze_n17, ze_n18, ze_n19, ze_n20, ze_n21, ze_n22, ze_n23, ze_n24, ze_n25, ze_n26, ze_n27, ze_n28, ze_n29, ze_n30, ze_n31, ze_n32, ze_n33, ze_n34, ze_n35, ze_n36, ze_n37, ze_n38, ze_n39, ze_n40, ze_n48, ze_n63, ze_n64, ze_n65, ze_n80, ze_n100, ze_n128, ze_n200, ze_n255, ze_n300, ze_n320, ze_n384, ze_n400, ze_n512, ze_n1023, ze_n1600, ze_n6400, ze_n9600, ze_n32768, ze_n65535, ze_n65536, ze_n802, ze_n8191, ze_L0, ze_L1, ze_L2, ze_L3, ze_L4, ze_L5, ze_L6, ze_L7, ze_L8, ze_L9, ze_L10, ze_L15, ze_L16, ze_L24, ze_L40, ze_L48, ze_L63, ze_L64, ze_L127, ze_L255, ze_L400, ze_L1024, ze_L2047, ze_L65535]
  rw [if_neg (fun z => z c1)] at e
  by_cases c2 : zp_mw A a b = 0
  case neg =>
    rw [if_pos c2] at e
    have n0 := zp_cwne K (x := zp_mw A a b) (by omega) c2
    rw [e, if_neg (by omega), decide_eq_false (by omega)]
    simp (disch := omega) only [zs_Ways_find_L8_body, zs_Ways_find_J33, zs_Ways_find_J53, zs_Ways_find_J76, zs_Ways_find_J78, zs_Ways_find_J99, zs_Ways_find_J134, zs_Ways_find_J135, zs_Ways_find_J183, zd_C_exists H K, zp_C_fw0 H K N, zp_C_mw H K, c1, zp_cw0, n0, ↓zd_bnd, ↓zy_bm, if_true, if_false, ite_true, ite_false, ↓reduceIte, Bool.false_eq_true, Bool.true_eq_false, eq_self, true_and, and_true, false_and, and_false, reduceCtorEq, decide_true, decide_false, not_true_eq_false, not_false_eq_true, ze_ltT, ze_ltF, ze_leT, ze_leF, ze_eqT, ze_eqF, ze_mlt, ze_ltm, ze_mle, ze_lem, ze_meq, ze_eqm, ze_mm, ze_mltm, ze_inT, ze_inF, ze_inM, ze_cl, ze_fin, ze_decT, ze_decF, Nat.reduceSub, Nat.reduceMul, nI_add, Nat.add_sub_cancel, Nat.add_assoc, Nat.reduceAdd, ze_r8, ze_r24, ze_r40, ze_r400, ze_l8, ze_l16, ze_l24, ze_l40, ze_sub, ze_am1, ze_es, ze_en, ze_i64, ze_m64, ze_64i, ze_64m, ze_LltT, ze_LltF, ze_LleT, ze_LleF, ze_LeqT, ze_LeqF, ze_Lmlt, ze_Lltm, ze_Lmle, ze_Llem, ze_Lmeq, ze_Leqm, ze_Lmm, lN_add, ze_ch, ze_chd, ze_bt, ze_bf, ze_n0, ze_n1, ze_n2, ze_n3, ze_n4, ze_n5, ze_n6, ze_n7, ze_n8, ze_n9, ze_n10, ze_n11, ze_n12, ze_n13, ze_n14, ze_n15, ze_n16, ze_n17, ze_n18, ze_n19, ze_n20, ze_n21, ze_n22, ze_n23, ze_n24, ze_n25, ze_n26, ze_n27, ze_n28, ze_n29, ze_n30, ze_n31, ze_n32, ze_n33, ze_n34, ze_n35, ze_n36, ze_n37, ze_n38, ze_n39, ze_n40, ze_n48, ze_n63, ze_n64, ze_n65, ze_n80, ze_n100, ze_n128, ze_n200, ze_n255, ze_n300, ze_n320, ze_n384, ze_n400, ze_n512, ze_n1023, ze_n1600, ze_n6400, ze_n9600, ze_n32768, ze_n65535, ze_n65536, ze_n802, ze_n8191, ze_L0, ze_L1, ze_L2, ze_L3, ze_L4, ze_L5, ze_L6, ze_L7, ze_L8, ze_L9, ze_L10, ze_L15, ze_L16, ze_L24, ze_L40, ze_L48, ze_L63, ze_L64, ze_L127, ze_L255, ze_L400, ze_L1024, ze_L2047, ze_L65535]
  rw [if_neg (fun z => z c2)] at e
  unfold zp_rest at e
  cases c3 : zp_cv A a b with
  | true =>
    rw [if_pos c3] at e
    rw [e, if_neg (by decide), zp_cw3]
    simp (disch := omega) only [zs_Ways_find_L8_body, zs_Ways_find_J33, zs_Ways_find_J53, zs_Ways_find_J76, zs_Ways_find_J78, zs_Ways_find_J99, zs_Ways_find_J134, zs_Ways_find_J135, zs_Ways_find_J183, zd_C_exists H K, zp_C_fw0 H K N, zp_C_mw H K, zp_C_converts H K, c1, c2, c3, zp_cw0, ↓zd_bnd, ↓zy_bm, if_true, if_false, ite_true, ite_false, ↓reduceIte, Bool.false_eq_true, Bool.true_eq_false, eq_self, true_and, and_true, false_and, and_false, reduceCtorEq, decide_true, decide_false, not_true_eq_false, not_false_eq_true, ze_ltT, ze_ltF, ze_leT, ze_leF, ze_eqT, ze_eqF, ze_mlt, ze_ltm, ze_mle, ze_lem, ze_meq, ze_eqm, ze_mm, ze_mltm, ze_inT, ze_inF, ze_inM, ze_cl, ze_fin, ze_decT, ze_decF, Nat.reduceSub, Nat.reduceMul, nI_add, Nat.add_sub_cancel, Nat.add_assoc, Nat.reduceAdd, ze_r8, ze_r24, ze_r40, ze_r400, ze_l8, ze_l16, ze_l24, ze_l40, ze_sub, ze_am1, ze_es, ze_en, ze_i64, ze_m64, ze_64i, ze_64m, ze_LltT, ze_LltF, ze_LleT, ze_LleF, ze_LeqT, ze_LeqF, ze_Lmlt, ze_Lltm, ze_Lmle, ze_Llem, ze_Lmeq, ze_Leqm, ze_Lmm, lN_add, ze_ch, ze_chd, ze_bt, ze_bf, ze_n0, ze_n1, ze_n2, ze_n3, ze_n4, ze_n5, ze_n6, ze_n7, ze_n8, ze_n9, ze_n10, ze_n11, ze_n12, ze_n13, ze_n14, ze_n15, ze_n16, ze_n17, ze_n18, ze_n19, ze_n20, ze_n21, ze_n22, ze_n23, ze_n24, ze_n25, ze_n26, ze_n27, ze_n28, ze_n29, ze_n30, ze_n31, ze_n32, ze_n33, ze_n34, ze_n35, ze_n36, ze_n37, ze_n38, ze_n39, ze_n40, ze_n48, ze_n63, ze_n64, ze_n65, ze_n80, ze_n100, ze_n128, ze_n200, ze_n255, ze_n300, ze_n320, ze_n384, ze_n400, ze_n512, ze_n1023, ze_n1600, ze_n6400, ze_n9600, ze_n32768, ze_n65535, ze_n65536, ze_n802, ze_n8191, ze_L0, ze_L1, ze_L2, ze_L3, ze_L4, ze_L5, ze_L6, ze_L7, ze_L8, ze_L9, ze_L10, ze_L15, ze_L16, ze_L24, ze_L40, ze_L48, ze_L63, ze_L64, ze_L127, ze_L255, ze_L400, ze_L1024, ze_L2047, ze_L65535]
  | false =>
    rw [if_neg (by rw [c3]; decide)] at e
    by_cases c4 : zp_fw A a b true = 0
    case neg =>
      rw [if_pos c4] at e
      have n0 := zp_cwne K (x := zp_fw A a b true) (by omega) c4
      rw [e, if_neg (by omega), decide_eq_false (by omega)]
      simp (disch := omega) only [zs_Ways_find_L8_body, zs_Ways_find_J33, zs_Ways_find_J53, zs_Ways_find_J76, zs_Ways_find_J78, zs_Ways_find_J99, zs_Ways_find_J134, zs_Ways_find_J135, zs_Ways_find_J183, zd_C_exists H K, zp_C_fw0 H K N, zp_C_fw1 H K N, zp_C_mw H K, zp_C_converts H K, c1, c2, c3, zp_cw0, n0, ↓zd_bnd, ↓zy_bm, if_true, if_false, ite_true, ite_false, ↓reduceIte, Bool.false_eq_true, Bool.true_eq_false, eq_self, true_and, and_true, false_and, and_false, reduceCtorEq, decide_true, decide_false, not_true_eq_false, not_false_eq_true, ze_ltT, ze_ltF, ze_leT, ze_leF, ze_eqT, ze_eqF, ze_mlt, ze_ltm, ze_mle, ze_lem, ze_meq, ze_eqm, ze_mm, ze_mltm, ze_inT, ze_inF, ze_inM, ze_cl, ze_fin, ze_decT, ze_decF, Nat.reduceSub, Nat.reduceMul, nI_add, Nat.add_sub_cancel, Nat.add_assoc, Nat.reduceAdd, ze_r8, ze_r24, ze_r40, ze_r400, ze_l8, ze_l16, ze_l24, ze_l40, ze_sub, ze_am1, ze_es, ze_en, ze_i64, ze_m64, ze_64i, ze_64m, ze_LltT, ze_LltF, ze_LleT, ze_LleF, ze_LeqT, ze_LeqF, ze_Lmlt, ze_Lltm, ze_Lmle, ze_Llem, ze_Lmeq, ze_Leqm, ze_Lmm, lN_add, ze_ch, ze_chd, ze_bt, ze_bf, ze_n0, ze_n1, ze_n2, ze_n3, ze_n4, ze_n5, ze_n6, ze_n7, ze_n8, ze_n9, ze_n10, ze_n11, ze_n12, ze_n13, ze_n14, ze_n15, ze_n16, ze_n17, ze_n18, ze_n19, ze_n20, ze_n21, ze_n22, ze_n23, ze_n24, ze_n25, ze_n26, ze_n27, ze_n28, ze_n29, ze_n30, ze_n31, ze_n32, ze_n33, ze_n34, ze_n35, ze_n36, ze_n37, ze_n38, ze_n39, ze_n40, ze_n48, ze_n63, ze_n64, ze_n65, ze_n80, ze_n100, ze_n128, ze_n200, ze_n255, ze_n300, ze_n320, ze_n384, ze_n400, ze_n512, ze_n1023, ze_n1600, ze_n6400, ze_n9600, ze_n32768, ze_n65535, ze_n65536, ze_n802, ze_n8191, ze_L0, ze_L1, ze_L2, ze_L3, ze_L4, ze_L5, ze_L6, ze_L7, ze_L8, ze_L9, ze_L10, ze_L15, ze_L16, ze_L24, ze_L40, ze_L48, ze_L63, ze_L64, ze_L127, ze_L255, ze_L400, ze_L1024, ze_L2047, ze_L65535]
    rw [if_neg (fun z => z c4)] at e
    by_cases l1 : zd_srt A a = 5
    · by_cases l2 : zd_srt A b = 5
      · rw [if_pos ⟨l1, l2⟩] at e
        rw [e, if_pos rfl, zp_cw4]
        simp (disch := omega) only [zs_Ways_find_L8_body, zs_Ways_find_J33, zs_Ways_find_J53, zs_Ways_find_J76, zs_Ways_find_J78, zs_Ways_find_J99, zs_Ways_find_J134, zs_Ways_find_J135, zs_Ways_find_J183, zd_C_exists H K, zd_C_isList H K, zp_C_fw0 H K N, zp_C_fw1 H K N, zp_C_mw H K, zp_C_converts H K, c1, c2, c3, c4, l1, l2, zp_cw0, ↓zd_bnd, ↓zy_bm, if_true, if_false, ite_true, ite_false, ↓reduceIte, Bool.false_eq_true, Bool.true_eq_false, eq_self, true_and, and_true, false_and, and_false, reduceCtorEq, decide_true, decide_false, not_true_eq_false, not_false_eq_true, ze_ltT, ze_ltF, ze_leT, ze_leF, ze_eqT, ze_eqF, ze_mlt, ze_ltm, ze_mle, ze_lem, ze_meq, ze_eqm, ze_mm, ze_mltm, ze_inT, ze_inF, ze_inM, ze_cl, ze_fin, ze_decT, ze_decF, Nat.reduceSub, Nat.reduceMul, nI_add, Nat.add_sub_cancel, Nat.add_assoc, Nat.reduceAdd, ze_r8, ze_r24, ze_r40, ze_r400, ze_l8, ze_l16, ze_l24, ze_l40, ze_sub, ze_am1, ze_es, ze_en, ze_i64, ze_m64, ze_64i, ze_64m, ze_LltT, ze_LltF, ze_LleT, ze_LleF, ze_LeqT, ze_LeqF, ze_Lmlt, ze_Lltm, ze_Lmle, ze_Llem, ze_Lmeq, ze_Leqm, ze_Lmm, lN_add, ze_ch, ze_chd, ze_bt, ze_bf, ze_n0, ze_n1, ze_n2, ze_n3, ze_n4, ze_n5, ze_n6, ze_n7, ze_n8, ze_n9, ze_n10, ze_n11, ze_n12, ze_n13, ze_n14, ze_n15, ze_n16, ze_n17, ze_n18, ze_n19, ze_n20, ze_n21, ze_n22, ze_n23, ze_n24, ze_n25, ze_n26, ze_n27, ze_n28, ze_n29, ze_n30, ze_n31, ze_n32, ze_n33, ze_n34, ze_n35, ze_n36, ze_n37, ze_n38, ze_n39, ze_n40, ze_n48, ze_n63, ze_n64, ze_n65, ze_n80, ze_n100, ze_n128, ze_n200, ze_n255, ze_n300, ze_n320, ze_n384, ze_n400, ze_n512, ze_n1023, ze_n1600, ze_n6400, ze_n9600, ze_n32768, ze_n65535, ze_n65536, ze_n802, ze_n8191, ze_L0, ze_L1, ze_L2, ze_L3, ze_L4, ze_L5, ze_L6, ze_L7, ze_L8, ze_L9, ze_L10, ze_L15, ze_L16, ze_L24, ze_L40, ze_L48, ze_L63, ze_L64, ze_L127, ze_L255, ze_L400, ze_L1024, ze_L2047, ze_L65535]
      · rw [if_neg (fun z => l2 z.2)] at e
        rw [e, if_neg (by decide), zp_cw0]
        simp (disch := omega) only [zs_Ways_find_L8_body, zs_Ways_find_J33, zs_Ways_find_J53, zs_Ways_find_J76, zs_Ways_find_J78, zs_Ways_find_J99, zs_Ways_find_J134, zs_Ways_find_J135, zs_Ways_find_J183, zd_C_exists H K, zd_C_isList H K, zp_C_fw0 H K N, zp_C_fw1 H K N, zp_C_mw H K, zp_C_converts H K, c1, c2, c3, c4, l1, zp_cw0, ↓zd_bnd, ↓zy_bm, if_true, if_false, ite_true, ite_false, ↓reduceIte, Bool.false_eq_true, Bool.true_eq_false, eq_self, true_and, and_true, false_and, and_false, reduceCtorEq, decide_true, decide_false, not_true_eq_false, not_false_eq_true, ze_ltT, ze_ltF, ze_leT, ze_leF, ze_eqT, ze_eqF, ze_mlt, ze_ltm, ze_mle, ze_lem, ze_meq, ze_eqm, ze_mm, ze_mltm, ze_inT, ze_inF, ze_inM, ze_cl, ze_fin, ze_decT, ze_decF, Nat.reduceSub, Nat.reduceMul, nI_add, Nat.add_sub_cancel, Nat.add_assoc, Nat.reduceAdd, ze_r8, ze_r24, ze_r40, ze_r400, ze_l8, ze_l16, ze_l24, ze_l40, ze_sub, ze_am1, ze_es, ze_en, ze_i64, ze_m64, ze_64i, ze_64m, ze_LltT, ze_LltF, ze_LleT, ze_LleF, ze_LeqT, ze_LeqF, ze_Lmlt, ze_Lltm, ze_Lmle, ze_Llem, ze_Lmeq, ze_Leqm, ze_Lmm, lN_add, ze_ch, ze_chd, ze_bt, ze_bf, ze_n0, ze_n1, ze_n2, ze_n3, ze_n4, ze_n5, ze_n6, ze_n7, ze_n8, ze_n9, ze_n10, ze_n11, ze_n12, ze_n13, ze_n14, ze_n15, ze_n16, ze_n17, ze_n18, ze_n19, ze_n20, ze_n21, ze_n22, ze_n23, ze_n24, ze_n25, ze_n26, ze_n27, ze_n28, ze_n29, ze_n30, ze_n31, ze_n32, ze_n33, ze_n34, ze_n35, ze_n36, ze_n37, ze_n38, ze_n39, ze_n40, ze_n48, ze_n63, ze_n64, ze_n65, ze_n80, ze_n100, ze_n128, ze_n200, ze_n255, ze_n300, ze_n320, ze_n384, ze_n400, ze_n512, ze_n1023, ze_n1600, ze_n6400, ze_n9600, ze_n32768, ze_n65535, ze_n65536, ze_n802, ze_n8191, ze_L0, ze_L1, ze_L2, ze_L3, ze_L4, ze_L5, ze_L6, ze_L7, ze_L8, ze_L9, ze_L10, ze_L15, ze_L16, ze_L24, ze_L40, ze_L48, ze_L63, ze_L64, ze_L127, ze_L255, ze_L400, ze_L1024, ze_L2047, ze_L65535]
    · rw [if_neg (fun z => l1 z.1)] at e
      rw [e, if_neg (by decide), zp_cw0]
      simp (disch := omega) only [zs_Ways_find_L8_body, zs_Ways_find_J33, zs_Ways_find_J53, zs_Ways_find_J76, zs_Ways_find_J78, zs_Ways_find_J99, zs_Ways_find_J134, zs_Ways_find_J135, zs_Ways_find_J183, zd_C_exists H K, zd_C_isList H K, zp_C_fw0 H K N, zp_C_fw1 H K N, zp_C_mw H K, zp_C_converts H K, c1, c2, c3, c4, zp_cw0, ↓zd_bnd, ↓zy_bm, if_true, if_false, ite_true, ite_false, ↓reduceIte, Bool.false_eq_true, Bool.true_eq_false, eq_self, true_and, and_true, false_and, and_false, reduceCtorEq, decide_true, decide_false, not_true_eq_false, not_false_eq_true, ze_ltT, ze_ltF, ze_leT, ze_leF, ze_eqT, ze_eqF, ze_mlt, ze_ltm, ze_mle, ze_lem, ze_meq, ze_eqm, ze_mm, ze_mltm, ze_inT, ze_inF, ze_inM, ze_cl, ze_fin, ze_decT, ze_decF, Nat.reduceSub, Nat.reduceMul, nI_add, Nat.add_sub_cancel, Nat.add_assoc, Nat.reduceAdd, ze_r8, ze_r24, ze_r40, ze_r400, ze_l8, ze_l16, ze_l24, ze_l40, ze_sub, ze_am1, ze_es, ze_en, ze_i64, ze_m64, ze_64i, ze_64m, ze_LltT, ze_LltF, ze_LleT, ze_LleF, ze_LeqT, ze_LeqF, ze_Lmlt, ze_Lltm, ze_Lmle, ze_Llem, ze_Lmeq, ze_Leqm, ze_Lmm, lN_add, ze_ch, ze_chd, ze_bt, ze_bf, ze_n0, ze_n1, ze_n2, ze_n3, ze_n4, ze_n5, ze_n6, ze_n7, ze_n8, ze_n9, ze_n10, ze_n11, ze_n12, ze_n13, ze_n14, ze_n15, ze_n16, ze_n17, ze_n18, ze_n19, ze_n20, ze_n21, ze_n22, ze_n23, ze_n24, ze_n25, ze_n26, ze_n27, ze_n28, ze_n29, ze_n30, ze_n31, ze_n32, ze_n33, ze_n34, ze_n35, ze_n36, ze_n37, ze_n38, ze_n39, ze_n40, ze_n48, ze_n63, ze_n64, ze_n65, ze_n80, ze_n100, ze_n128, ze_n200, ze_n255, ze_n300, ze_n320, ze_n384, ze_n400, ze_n512, ze_n1023, ze_n1600, ze_n6400, ze_n9600, ze_n32768, ze_n65535, ze_n65536, ze_n802, ze_n8191, ze_L0, ze_L1, ze_L2, ze_L3, ze_L4, ze_L5, ze_L6, ze_L7, ze_L8, ze_L9, ze_L10, ze_L15, ze_L16, ze_L24, ze_L40, ze_L48, ze_L63, ze_L64, ze_L127, ze_L255, ze_L400, ze_L1024, ze_L2047, ze_L65535]
theorem zp_C_find {A : zd_A} {h : zx_H} (H : zd_C A h) (K : zd_ok A) (N : zp_N A h) {a b : Nat} (ha : a < zd_T A) (hb : b < zd_T A) : ∃ s, zs_Ways_find (nI a) (nI b) h = some (zp_cw (zp_hw A a b), s) ∧ zp_ft A h s ∧ zp_ch A s 41 a b := by
  have hT := zd_ok_T K
  have key : ∀ n a b d F (s : zx_H), a < zd_T A → b < zd_T A → a ≤ n → a + d < 40 → n < F → zp_ft A h s → ∃ s', zx_loop (fun _ _ _ _ => none) zs_Ways_find_L8_body F (nI a) (nI b) (nI d) s = some (if d = 0 then zp_cw (zp_how A n a b) else if zp_how A n a b ≤ 1 then zp_cw (zp_how A n a b) else nI 64, s') ∧ zp_ft A s s' ∧ zp_ch A s' (n + 1) a b := by
    intro n
    induction n with
    | zero =>
      intro a b d F s ha hb h1 h2 hF x
      obtain ⟨F, rfl⟩ : ∃ G, F = G + 1 := ⟨F - 1, by omega⟩
      have h4 : zp_one A a b ≠ 4 := fun e => by
        have := zd_ok_of K a ha (zp_one4 e).1
        omega
      have Hs := zd_C_k (zp_ft_k x) H
      have Ns := zp_ft_N x N
      have t := zp_find_turn Hs K Ns ha hb (zx_loop (fun _ _ _ _ => none) zs_Ways_find_L8_body F) (d := d) (by omega)
      rw [if_neg h4, decide_eq_false h4] at t
      have r := zp_one_rng K a b
      refine ⟨zx_sI s 15 0 (40 * a + b) (zp_cw (zp_one A a b)), ?_, zp_ft_set K s ha hb, ⟨ze_gIs _ _ _ _ _, fun e => absurd e h4⟩⟩
      refine Eq.trans t ?_
      show _ = some (if d = 0 then zp_cw (zp_one A a b) else if zp_one A a b ≤ 1 then zp_cw (zp_one A a b) else nI 64, _)
      by_cases hd : d = 0
      · simp (disch := omega) only [zs_Ways_find_J184, zs_Ways_find_J199, hd, ↓zd_bnd, ↓zy_bm, if_true, if_false, ite_true, ite_false, ↓reduceIte, Bool.false_eq_true, Bool.true_eq_false, eq_self, true_and, and_true, false_and, and_false, reduceCtorEq, decide_true, decide_false, not_true_eq_false, not_false_eq_true, ze_ltT, ze_ltF, ze_leT, ze_leF, ze_eqT, ze_eqF, ze_mlt, ze_ltm, ze_mle, ze_lem, ze_meq, ze_eqm, ze_mm, ze_mltm, ze_inT, ze_inF, ze_inM, ze_cl, ze_fin, ze_decT, ze_decF, Nat.reduceSub, Nat.reduceMul, nI_add, Nat.add_sub_cancel, Nat.add_assoc, Nat.reduceAdd, ze_r8, ze_r24, ze_r40, ze_r400, ze_l8, ze_l16, ze_l24, ze_l40, ze_sub, ze_am1, ze_es, ze_en, ze_i64, ze_m64, ze_64i, ze_64m, ze_LltT, ze_LltF, ze_LleT, ze_LleF, ze_LeqT, ze_LeqF, ze_Lmlt, ze_Lltm, ze_Lmle, ze_Llem, ze_Lmeq, ze_Leqm, ze_Lmm, lN_add, ze_ch, ze_chd, ze_bt, ze_bf, ze_n0, ze_n1, ze_n2, ze_n3, ze_n4, ze_n5, ze_n6, ze_n7, ze_n8, ze_n9, ze_n10, ze_n11, ze_n12, ze_n13, ze_n14, ze_n15, ze_n16, ze_n17, ze_n18, ze_n19, ze_n20, ze_n21, ze_n22, ze_n23, ze_n24, ze_n25, ze_n26, ze_n27, ze_n28, ze_n29, ze_n30, ze_n31, ze_n32, ze_n33, ze_n34, ze_n35, ze_n36, ze_n37, ze_n38, ze_n39, ze_n40, ze_n48, ze_n63, ze_n64, ze_n65, ze_n80, ze_n100, ze_n128, ze_n200, ze_n255, ze_n300, ze_n320, ze_n384, ze_n400, ze_n512, ze_n1023, ze_n1600, ze_n6400, ze_n9600, ze_n32768, ze_n65535, ze_n65536, ze_n802, ze_n8191, ze_L0, ze_L1, ze_L2, ze_L3, ze_L4, ze_L5, ze_L6, ze_L7, ze_L8, ze_L9, ze_L10, ze_L15, ze_L16, ze_L24, ze_L40, ze_L48, ze_L63, ze_L64, ze_L127, ze_L255, ze_L400, ze_L1024, ze_L2047, ze_L65535]
      · by_cases c : zp_one A a b ≤ 1
        · simp (disch := omega) only [zs_Ways_find_J184, zs_Ways_find_J199, hd, c, zp_cw_lt c, ↓zd_bnd, ↓zy_bm, if_true, if_false, ite_true, ite_false, ↓reduceIte, Bool.false_eq_true, Bool.true_eq_false, eq_self, true_and, and_true, false_and, and_false, reduceCtorEq, decide_true, decide_false, not_true_eq_false, not_false_eq_true, ze_ltT, ze_ltF, ze_leT, ze_leF, ze_eqT, ze_eqF, ze_mlt, ze_ltm, ze_mle, ze_lem, ze_meq, ze_eqm, ze_mm, ze_mltm, ze_inT, ze_inF, ze_inM, ze_cl, ze_fin, ze_decT, ze_decF, Nat.reduceSub, Nat.reduceMul, nI_add, Nat.add_sub_cancel, Nat.add_assoc, Nat.reduceAdd, ze_r8, ze_r24, ze_r40, ze_r400, ze_l8, ze_l16, ze_l24, ze_l40, ze_sub, ze_am1, ze_es, ze_en, ze_i64, ze_m64, ze_64i, ze_64m, ze_LltT, ze_LltF, ze_LleT, ze_LleF, ze_LeqT, ze_LeqF, ze_Lmlt, ze_Lltm, ze_Lmle, ze_Llem, ze_Lmeq, ze_Leqm, ze_Lmm, lN_add, ze_ch, ze_chd, ze_bt, ze_bf, ze_n0, ze_n1, ze_n2, ze_n3, ze_n4, ze_n5, ze_n6, ze_n7, ze_n8, ze_n9, ze_n10, ze_n11, ze_n12, ze_n13, ze_n14, ze_n15, ze_n16, ze_n17, ze_n18, ze_n19, ze_n20, ze_n21, ze_n22, ze_n23, ze_n24, ze_n25, ze_n26, ze_n27, ze_n28, ze_n29, ze_n30, ze_n31, ze_n32, ze_n33, ze_n34, ze_n35, ze_n36, ze_n37, ze_n38, ze_n39, ze_n40, ze_n48, ze_n63, ze_n64, ze_n65, ze_n80, ze_n100, ze_n128, ze_n200, ze_n255, ze_n300, ze_n320, ze_n384, ze_n400, ze_n512, ze_n1023, ze_n1600, ze_n6400, ze_n9600, ze_n32768, ze_n65535, ze_n65536, ze_n802, ze_n8191, ze_L0, ze_L1, ze_L2, ze_L3, ze_L4, ze_L5, ze_L6, ze_L7, ze_L8, ze_L9, ze_L10, ze_L15, ze_L16, ze_L24, ze_L40, ze_L48, ze_L63, ze_L64, ze_L127, ze_L255, ze_L400, ze_L1024, ze_L2047, ze_L65535]
        · simp (disch := omega) only [zs_Ways_find_J184, zs_Ways_find_J199, hd, c, zp_cw_ge K r c, ↓zd_bnd, ↓zy_bm, if_true, if_false, ite_true, ite_false, ↓reduceIte, Bool.false_eq_true, Bool.true_eq_false, eq_self, true_and, and_true, false_and, and_false, reduceCtorEq, decide_true, decide_false, not_true_eq_false, not_false_eq_true, ze_ltT, ze_ltF, ze_leT, ze_leF, ze_eqT, ze_eqF, ze_mlt, ze_ltm, ze_mle, ze_lem, ze_meq, ze_eqm, ze_mm, ze_mltm, ze_inT, ze_inF, ze_inM, ze_cl, ze_fin, ze_decT, ze_decF, Nat.reduceSub, Nat.reduceMul, nI_add, Nat.add_sub_cancel, Nat.add_assoc, Nat.reduceAdd, ze_r8, ze_r24, ze_r40, ze_r400, ze_l8, ze_l16, ze_l24, ze_l40, ze_sub, ze_am1, ze_es, ze_en, ze_i64, ze_m64, ze_64i, ze_64m, ze_LltT, ze_LltF, ze_LleT, ze_LleF, ze_LeqT, ze_LeqF, ze_Lmlt, ze_Lltm, ze_Lmle, ze_Llem, ze_Lmeq, ze_Leqm, ze_Lmm, lN_add, ze_ch, ze_chd, ze_bt, ze_bf, ze_n0, ze_n1, ze_n2, ze_n3, ze_n4, ze_n5, ze_n6, ze_n7, ze_n8, ze_n9, ze_n10, ze_n11, ze_n12, ze_n13, ze_n14, ze_n15, ze_n16, ze_n17, ze_n18, ze_n19, ze_n20, ze_n21, ze_n22, ze_n23, ze_n24, ze_n25, ze_n26, ze_n27, ze_n28, ze_n29, ze_n30, ze_n31, ze_n32, ze_n33, ze_n34, ze_n35, ze_n36, ze_n37, ze_n38, ze_n39, ze_n40, ze_n48, ze_n63, ze_n64, ze_n65, ze_n80, ze_n100, ze_n128, ze_n200, ze_n255, ze_n300, ze_n320, ze_n384, ze_n400, ze_n512, ze_n1023, ze_n1600, ze_n6400, ze_n9600, ze_n32768, ze_n65535, ze_n65536, ze_n802, ze_n8191, ze_L0, ze_L1, ze_L2, ze_L3, ze_L4, ze_L5, ze_L6, ze_L7, ze_L8, ze_L9, ze_L10, ze_L15, ze_L16, ze_L24, ze_L40, ze_L48, ze_L63, ze_L64, ze_L127, ze_L255, ze_L400, ze_L1024, ze_L2047, ze_L65535]
    | succ n ih =>
      intro a b d F s ha hb h1 h2 hF x
      obtain ⟨F, rfl⟩ : ∃ G, F = G + 1 := ⟨F - 1, by omega⟩
      have Hs := zd_C_k (zp_ft_k x) H
      have Ns := zp_ft_N x N
      have t := zp_find_turn Hs K Ns ha hb (zx_loop (fun _ _ _ _ => none) zs_Ways_find_L8_body F) (d := d) (by omega)
      have r := zp_one_rng K a b
      by_cases h4 : zp_one A a b = 4
      · obtain ⟨l1, l2⟩ := zp_one4 h4
        have o1 := zd_ok_of K a ha l1
        have o2 := zd_ok_of K b hb l2
        have x1 := zp_ft_set K s ha hb
        have H1 := zd_C_k (zp_ft_k x1) Hs
        obtain ⟨s', e1, e2, e3⟩ := ih (zd_of A a) (zd_of A b) (d + 1) F (zx_sI s 15 0 (40 * a + b) (zp_cw (zp_one A a b))) (by omega) (by omega) (by omega) (by omega) (by omega) (zp_ft_trans x x1)
        refine ⟨s', ?_, zp_ft_trans x1 e2, ?_, fun _ => e3⟩
        · refine Eq.trans t ?_
          show _ = some (if d = 0 then zp_cw (if zp_one A a b = 4 then (if zp_how A n (zd_of A a) (zd_of A b) ≤ 1 then zp_how A n (zd_of A a) (zd_of A b) else 4) else zp_one A a b) else if (if zp_one A a b = 4 then (if zp_how A n (zd_of A a) (zd_of A b) ≤ 1 then zp_how A n (zd_of A a) (zd_of A b) else 4) else zp_one A a b) ≤ 1 then zp_cw (if zp_one A a b = 4 then (if zp_how A n (zd_of A a) (zd_of A b) ≤ 1 then zp_how A n (zd_of A a) (zd_of A b) else 4) else zp_one A a b) else nI 64, s')
          rw [if_neg (show ¬ d + 1 = 0 by omega)] at e1
          rw [if_pos h4, if_pos h4, decide_eq_true h4]
          have e0 : zs_Ways_find_J184 (zx_loop (fun _ _ _ _ => none) zs_Ways_find_L8_body F) (nI a) (nI b) (nI d) (-nI 1) true (zx_sI s 15 0 (40 * a + b) (zp_cw (zp_one A a b))) = zx_loop (fun _ _ _ _ => none) zs_Ways_find_L8_body F (nI (zd_of A a)) (nI (zd_of A b)) (nI (d + 1)) (zx_sI s 15 0 (40 * a + b) (zp_cw (zp_one A a b))) := by
            simp (disch := omega) only [zs_Ways_find_J184, zf_C_element H1 K, l1, l2, ↓zd_bnd, ↓zy_bm, if_true, if_false, ite_true, ite_false, ↓reduceIte, Bool.false_eq_true, Bool.true_eq_false, eq_self, true_and, and_true, false_and, and_false, reduceCtorEq, decide_true, decide_false, not_true_eq_false, not_false_eq_true, ze_ltT, ze_ltF, ze_leT, ze_leF, ze_eqT, ze_eqF, ze_mlt, ze_ltm, ze_mle, ze_lem, ze_meq, ze_eqm, ze_mm, ze_mltm, ze_inT, ze_inF, ze_inM, ze_cl, ze_fin, ze_decT, ze_decF, Nat.reduceSub, Nat.reduceMul, nI_add, Nat.add_sub_cancel, Nat.add_assoc, Nat.reduceAdd, ze_r8, ze_r24, ze_r40, ze_r400, ze_l8, ze_l16, ze_l24, ze_l40, ze_sub, ze_am1, ze_es, ze_en, ze_i64, ze_m64, ze_64i, ze_64m, ze_LltT, ze_LltF, ze_LleT, ze_LleF, ze_LeqT, ze_LeqF, ze_Lmlt, ze_Lltm, ze_Lmle, ze_Llem, ze_Lmeq, ze_Leqm, ze_Lmm, lN_add, ze_ch, ze_chd, ze_bt, ze_bf, ze_n0, ze_n1, ze_n2, ze_n3, ze_n4, ze_n5, ze_n6, ze_n7, ze_n8, ze_n9, ze_n10, ze_n11, ze_n12, ze_n13, ze_n14, ze_n15, ze_n16, ze_n17, ze_n18, ze_n19, ze_n20, ze_n21, ze_n22, ze_n23, ze_n24, ze_n25, ze_n26, ze_n27, ze_n28, ze_n29, ze_n30, ze_n31, ze_n32, ze_n33, ze_n34, ze_n35, ze_n36, ze_n37, ze_n38, ze_n39, ze_n40, ze_n48, ze_n63, ze_n64, ze_n65, ze_n80, ze_n100, ze_n128, ze_n200, ze_n255, ze_n300, ze_n320, ze_n384, ze_n400, ze_n512, ze_n1023, ze_n1600, ze_n6400, ze_n9600, ze_n32768, ze_n65535, ze_n65536, ze_n802, ze_n8191, ze_L0, ze_L1, ze_L2, ze_L3, ze_L4, ze_L5, ze_L6, ze_L7, ze_L8, ze_L9, ze_L10, ze_L15, ze_L16, ze_L24, ze_L40, ze_L48, ze_L63, ze_L64, ze_L127, ze_L255, ze_L400, ze_L1024, ze_L2047, ze_L65535]
          rw [e0, e1]
          by_cases c : zp_how A n (zd_of A a) (zd_of A b) ≤ 1
          · simp only [if_pos c]
            by_cases hd : d = 0
            · rw [if_pos hd]
            · rw [if_neg hd]
          · simp only [if_neg c]
            by_cases hd : d = 0
            · rw [if_pos hd]; rfl
            · rw [if_neg hd, if_neg (by decide)]
        · rcases e2.2.2 a b ha hb with e | e
          · rw [e]; exact ze_gIs _ _ _ _ _
          · exact e
      · rw [if_neg h4, decide_eq_false h4] at t
        refine ⟨zx_sI s 15 0 (40 * a + b) (zp_cw (zp_one A a b)), ?_, zp_ft_set K s ha hb, ⟨ze_gIs _ _ _ _ _, fun e => absurd e h4⟩⟩
        refine Eq.trans t ?_
        show _ = some (if d = 0 then zp_cw (if zp_one A a b = 4 then _ else zp_one A a b) else if (if zp_one A a b = 4 then _ else zp_one A a b) ≤ 1 then zp_cw (if zp_one A a b = 4 then _ else zp_one A a b) else nI 64, _)
        rw [if_neg h4]
        by_cases hd : d = 0
        · simp (disch := omega) only [zs_Ways_find_J184, zs_Ways_find_J199, hd, ↓zd_bnd, ↓zy_bm, if_true, if_false, ite_true, ite_false, ↓reduceIte, Bool.false_eq_true, Bool.true_eq_false, eq_self, true_and, and_true, false_and, and_false, reduceCtorEq, decide_true, decide_false, not_true_eq_false, not_false_eq_true, ze_ltT, ze_ltF, ze_leT, ze_leF, ze_eqT, ze_eqF, ze_mlt, ze_ltm, ze_mle, ze_lem, ze_meq, ze_eqm, ze_mm, ze_mltm, ze_inT, ze_inF, ze_inM, ze_cl, ze_fin, ze_decT, ze_decF, Nat.reduceSub, Nat.reduceMul, nI_add, Nat.add_sub_cancel, Nat.add_assoc, Nat.reduceAdd, ze_r8, ze_r24, ze_r40, ze_r400, ze_l8, ze_l16, ze_l24, ze_l40, ze_sub, ze_am1, ze_es, ze_en, ze_i64, ze_m64, ze_64i, ze_64m, ze_LltT, ze_LltF, ze_LleT, ze_LleF, ze_LeqT, ze_LeqF, ze_Lmlt, ze_Lltm, ze_Lmle, ze_Llem, ze_Lmeq, ze_Leqm, ze_Lmm, lN_add, ze_ch, ze_chd, ze_bt, ze_bf, ze_n0, ze_n1, ze_n2, ze_n3, ze_n4, ze_n5, ze_n6, ze_n7, ze_n8, ze_n9, ze_n10, ze_n11, ze_n12, ze_n13, ze_n14, ze_n15, ze_n16, ze_n17, ze_n18, ze_n19, ze_n20, ze_n21, ze_n22, ze_n23, ze_n24, ze_n25, ze_n26, ze_n27, ze_n28, ze_n29, ze_n30, ze_n31, ze_n32, ze_n33, ze_n34, ze_n35, ze_n36, ze_n37, ze_n38, ze_n39, ze_n40, ze_n48, ze_n63, ze_n64, ze_n65, ze_n80, ze_n100, ze_n128, ze_n200, ze_n255, ze_n300, ze_n320, ze_n384, ze_n400, ze_n512, ze_n1023, ze_n1600, ze_n6400, ze_n9600, ze_n32768, ze_n65535, ze_n65536, ze_n802, ze_n8191, ze_L0, ze_L1, ze_L2, ze_L3, ze_L4, ze_L5, ze_L6, ze_L7, ze_L8, ze_L9, ze_L10, ze_L15, ze_L16, ze_L24, ze_L40, ze_L48, ze_L63, ze_L64, ze_L127, ze_L255, ze_L400, ze_L1024, ze_L2047, ze_L65535]
        · by_cases c : zp_one A a b ≤ 1
          · simp (disch := omega) only [zs_Ways_find_J184, zs_Ways_find_J199, hd, c, zp_cw_lt c, ↓zd_bnd, ↓zy_bm, if_true, if_false, ite_true, ite_false, ↓reduceIte, Bool.false_eq_true, Bool.true_eq_false, eq_self, true_and, and_true, false_and, and_false, reduceCtorEq, decide_true, decide_false, not_true_eq_false, not_false_eq_true, ze_ltT, ze_ltF, ze_leT, ze_leF, ze_eqT, ze_eqF, ze_mlt, ze_ltm, ze_mle, ze_lem, ze_meq, ze_eqm, ze_mm, ze_mltm, ze_inT, ze_inF, ze_inM, ze_cl, ze_fin, ze_decT, ze_decF, Nat.reduceSub, Nat.reduceMul, nI_add, Nat.add_sub_cancel, Nat.add_assoc, Nat.reduceAdd, ze_r8, ze_r24, ze_r40, ze_r400, ze_l8, ze_l16, ze_l24, ze_l40, ze_sub, ze_am1, ze_es, ze_en, ze_i64, ze_m64, ze_64i, ze_64m, ze_LltT, ze_LltF, ze_LleT, ze_LleF, ze_LeqT, ze_LeqF, ze_Lmlt, ze_Lltm, ze_Lmle, ze_Llem, ze_Lmeq, ze_Leqm, ze_Lmm, lN_add, ze_ch, ze_chd, ze_bt, ze_bf, ze_n0, ze_n1, ze_n2, ze_n3, ze_n4, ze_n5, ze_n6, ze_n7, ze_n8, ze_n9, ze_n10, ze_n11, ze_n12, ze_n13, ze_n14, ze_n15, ze_n16, ze_n17, ze_n18, ze_n19, ze_n20, ze_n21, ze_n22, ze_n23, ze_n24, ze_n25, ze_n26, ze_n27, ze_n28, ze_n29, ze_n30, ze_n31, ze_n32, ze_n33, ze_n34, ze_n35, ze_n36, ze_n37, ze_n38, ze_n39, ze_n40, ze_n48, ze_n63, ze_n64, ze_n65, ze_n80, ze_n100, ze_n128, ze_n200, ze_n255, ze_n300, ze_n320, ze_n384, ze_n400, ze_n512, ze_n1023, ze_n1600, ze_n6400, ze_n9600, ze_n32768, ze_n65535, ze_n65536, ze_n802, ze_n8191, ze_L0, ze_L1, ze_L2, ze_L3, ze_L4, ze_L5, ze_L6, ze_L7, ze_L8, ze_L9, ze_L10, ze_L15, ze_L16, ze_L24, ze_L40, ze_L48, ze_L63, ze_L64, ze_L127, ze_L255, ze_L400, ze_L1024, ze_L2047, ze_L65535]
          · simp (disch := omega) only [zs_Ways_find_J184, zs_Ways_find_J199, hd, c, zp_cw_ge K r c, ↓zd_bnd, ↓zy_bm, if_true, if_false, ite_true, ite_false, ↓reduceIte, Bool.false_eq_true, Bool.true_eq_false, eq_self, true_and, and_true, false_and, and_false, reduceCtorEq, decide_true, decide_false, not_true_eq_false, not_false_eq_true, ze_ltT, ze_ltF, ze_leT, ze_leF, ze_eqT, ze_eqF, ze_mlt, ze_ltm, ze_mle, ze_lem, ze_meq, ze_eqm, ze_mm, ze_mltm, ze_inT, ze_inF, ze_inM, ze_cl, ze_fin, ze_decT, ze_decF, Nat.reduceSub, Nat.reduceMul, nI_add, Nat.add_sub_cancel, Nat.add_assoc, Nat.reduceAdd, ze_r8, ze_r24, ze_r40, ze_r400, ze_l8, ze_l16, ze_l24, ze_l40, ze_sub, ze_am1, ze_es, ze_en, ze_i64, ze_m64, ze_64i, ze_64m, ze_LltT, ze_LltF, ze_LleT, ze_LleF, ze_LeqT, ze_LeqF, ze_Lmlt, ze_Lltm, ze_Lmle, ze_Llem, ze_Lmeq, ze_Leqm, ze_Lmm, lN_add, ze_ch, ze_chd, ze_bt, ze_bf, ze_n0, ze_n1, ze_n2, ze_n3, ze_n4, ze_n5, ze_n6, ze_n7, ze_n8, ze_n9, ze_n10, ze_n11, ze_n12, ze_n13, ze_n14, ze_n15, ze_n16, ze_n17, ze_n18, ze_n19, ze_n20, ze_n21, ze_n22, ze_n23, ze_n24, ze_n25, ze_n26, ze_n27, ze_n28, ze_n29, ze_n30, ze_n31, ze_n32, ze_n33, ze_n34, ze_n35, ze_n36, ze_n37, ze_n38, ze_n39, ze_n40, ze_n48, ze_n63, ze_n64, ze_n65, ze_n80, ze_n100, ze_n128, ze_n200, ze_n255, ze_n300, ze_n320, ze_n384, ze_n400, ze_n512, ze_n1023, ze_n1600, ze_n6400, ze_n9600, ze_n32768, ze_n65535, ze_n65536, ze_n802, ze_n8191, ze_L0, ze_L1, ze_L2, ze_L3, ze_L4, ze_L5, ze_L6, ze_L7, ze_L8, ze_L9, ze_L10, ze_L15, ze_L16, ze_L24, ze_L40, ze_L48, ze_L63, ze_L64, ze_L127, ze_L255, ze_L400, ze_L1024, ze_L2047, ze_L65535]
  obtain ⟨s, e1, e2, e3⟩ := key 40 a b 0 zx_fuel h ha hb (by omega) (by omega) (by unfold zx_fuel; omega) (zp_ft_refl A h)
  exact ⟨s, e1, e2, e3⟩
