/-! a value as a text -/
theorem zm_nat (x : Int64) : ∃ u, zm_is x u ∧ (if (0 : Int64) ≤ x then -x else x) = -lN u := by
  have a1 := Int64.le_toInt x
  have a2 := Int64.toInt_lt x
  have e0 : (0 : Int64).toInt = 0 := by decide
  refine ⟨x.toInt.natAbs, ⟨by omega, ?_⟩, ?_⟩
  · by_cases c : 0 ≤ x.toInt
    · exact Or.inl ⟨by rw [zn_eqI, zm_lnI (by omega)]; omega, by omega⟩
    · exact Or.inr ⟨by rw [zn_eqI, zm_ngI (by omega)]; omega, by omega⟩
  · by_cases c : 0 ≤ x.toInt
    · rw [if_pos (by rw [Int64.le_iff_toInt_le, e0]; exact c)]
      congr 1
      rw [zn_eqI, zm_lnI (by omega)]; omega
    · rw [if_neg (by rw [Int64.le_iff_toInt_le, e0]; exact c), zn_eqI, zm_ngI (by omega)]; omega
theorem zm_tx_lt {c u i : Nat} (hc : c < 65536) : zm_tx c u i < 65536 := by
  unfold zm_tx zm_dg
  have := Nat.mod_lt (u / 10 ^ (zm_p u + zm_w c - i)) (show 0 < 10 by decide)
  split <;> omega
theorem zm_tl_le {c u : Nat} (hu : u ≤ 2 ^ 63) : zm_tl c u ≤ 24 := by
  have := (zm_p_ok hu).1
  have := zm_w1 c
  unfold zm_tl
  omega
theorem zm_R_J12 {n : Nat} {h s : zx_H} {x : Int64} {u : Nat} (hx : zm_is x u) {c : Nat} (a : zm_B n h (zm_tx c u) (zm_w c) s) : ∃ s1, zs_Ref_writeNumber_J12 x s = some s1 ∧ zm_B n h (zm_tx c u) (zm_tl c u) s1 := by
  have := (zm_p_ok hx.1).1
  obtain ⟨s1, e1, e2⟩ := zm_R_14 hx a (zm_p u) 0 zx_fuel (by omega) (by unfold zx_fuel; omega)
  exact ⟨s1, e1, e2⟩
theorem zm_tx0 {c u : Nat} (hc : ¬ c = 0) : zm_tx c u 0 = c := by
  unfold zm_tx zm_w
  rw [if_neg hc, if_pos (by omega)]
theorem zm_R_writeNumber {n : Nat} {h s : zx_H} {x : Int64} {u : Nat} (hx : zm_is x u) (a : ∀ f, zm_B n h f 0 s) : ∃ s1, zs_Ref_writeNumber x s = some s1 ∧ zm_B n h (zm_tx (if lN 0 ≤ x then 0 else 45) u) (zm_tl (if lN 0 ≤ x then 0 else 45) u) s1 := by
  by_cases c : lN 0 ≤ x
  · rw [if_pos c]
    obtain ⟨s1, e1, e2⟩ := zm_R_J12 hx (c := 0) (a _)
    refine ⟨s1, ?_, e2⟩
    simp (disch := omega) only [zs_Ref_writeNumber, c, e1, ↓zd_bnd, ↓zy_bm, if_true, if_false, ite_true, ite_false, ↓reduceIte, Bool.false_eq_true, Bool.true_eq_false, eq_self, true_and, and_true, false_and, and_false, reduceCtorEq, decide_true, decide_false, not_true_eq_false, not_false_eq_true, ze_ltT, ze_ltF, ze_leT, ze_leF, ze_eqT, ze_eqF, ze_mlt, ze_ltm, ze_mle, ze_lem, ze_meq, ze_eqm, ze_mm, ze_mltm, ze_inT, ze_inF, ze_inM, ze_cl, ze_fin, ze_decT, ze_decF, Nat.reduceSub, Nat.reduceMul, nI_add, Nat.add_sub_cancel, Nat.add_assoc, Nat.reduceAdd, ze_r8, ze_r24, ze_r40, ze_r400, ze_l8, ze_l16, ze_l24, ze_l40, ze_sub, ze_am1, ze_es, ze_en, ze_i64, ze_m64, ze_64i, ze_64m, ze_LltT, ze_LltF, ze_LleT, ze_LleF, ze_LeqT, ze_LeqF, ze_Lmlt, ze_Lltm, ze_Lmle, ze_Llem, ze_Lmeq, ze_Leqm, ze_Lmm, lN_add, ze_ch, ze_chd, ze_bt, ze_bf, ze_n0, ze_n1, ze_n2, ze_n3, ze_n4, ze_n5, ze_n6, ze_n7, ze_n8, ze_n9, ze_n10, ze_n11, ze_n12, ze_n13, ze_n14, ze_n15, ze_n16, ze_n17, ze_n18, ze_n19, ze_n20, ze_n21, ze_n22, ze_n23, ze_n24, ze_n25, ze_n26, ze_n27, ze_n28, ze_n29, ze_n30, ze_n31, ze_n32, ze_n33, ze_n34, ze_n35, ze_n36, ze_n37, ze_n38, ze_n39, ze_n40, ze_n48, ze_n63, ze_n64, ze_n65, ze_n80, ze_n100, ze_n128, ze_n200, ze_n255, ze_n300, ze_n320, ze_n384, ze_n400, ze_n512, ze_n1023, ze_n1600, ze_n6400, ze_n9600, ze_n32768, ze_n65535, ze_n65536, ze_n802, ze_n8191, ze_L0, ze_L1, ze_L2, ze_L3, ze_L4, ze_L5, ze_L6, ze_L7, ze_L8, ze_L9, ze_L10, ze_L15, ze_L16, ze_L24, ze_L40, ze_L48, ze_L63, ze_L64, ze_L127, ze_L255, ze_L400, ze_L1024, ze_L2047, ze_L65535]
  · rw [if_neg c]
    obtain ⟨s0, e3, e4⟩ := zm_write (by omega) (a (zm_tx 45 u))
    rw [zm_tx0 (by decide)] at e3
    obtain ⟨s1, e1, e2⟩ := zm_R_J12 hx (c := 45) e4
    refine ⟨s1, ?_, e2⟩
    simp (disch := omega) only [zs_Ref_writeNumber, c, ze_n45, e3, e1, ↓zd_bnd, ↓zy_bm, if_true, if_false, ite_true, ite_false, ↓reduceIte, Bool.false_eq_true, Bool.true_eq_false, eq_self, true_and, and_true, false_and, and_false, reduceCtorEq, decide_true, decide_false, not_true_eq_false, not_false_eq_true, ze_ltT, ze_ltF, ze_leT, ze_leF, ze_eqT, ze_eqF, ze_mlt, ze_ltm, ze_mle, ze_lem, ze_meq, ze_eqm, ze_mm, ze_mltm, ze_inT, ze_inF, ze_inM, ze_cl, ze_fin, ze_decT, ze_decF, Nat.reduceSub, Nat.reduceMul, nI_add, Nat.add_sub_cancel, Nat.add_assoc, Nat.reduceAdd, ze_r8, ze_r24, ze_r40, ze_r400, ze_l8, ze_l16, ze_l24, ze_l40, ze_sub, ze_am1, ze_es, ze_en, ze_i64, ze_m64, ze_64i, ze_64m, ze_LltT, ze_LltF, ze_LleT, ze_LleF, ze_LeqT, ze_LeqF, ze_Lmlt, ze_Lltm, ze_Lmle, ze_Llem, ze_Lmeq, ze_Leqm, ze_Lmm, lN_add, ze_ch, ze_chd, ze_bt, ze_bf, ze_n0, ze_n1, ze_n2, ze_n3, ze_n4, ze_n5, ze_n6, ze_n7, ze_n8, ze_n9, ze_n10, ze_n11, ze_n12, ze_n13, ze_n14, ze_n15, ze_n16, ze_n17, ze_n18, ze_n19, ze_n20, ze_n21, ze_n22, ze_n23, ze_n24, ze_n25, ze_n26, ze_n27, ze_n28, ze_n29, ze_n30, ze_n31, ze_n32, ze_n33, ze_n34, ze_n35, ze_n36, ze_n37, ze_n38, ze_n39, ze_n40, ze_n48, ze_n63, ze_n64, ze_n65, ze_n80, ze_n100, ze_n128, ze_n200, ze_n255, ze_n300, ze_n320, ze_n384, ze_n400, ze_n512, ze_n1023, ze_n1600, ze_n6400, ze_n9600, ze_n32768, ze_n65535, ze_n65536, ze_n802, ze_n8191, ze_L0, ze_L1, ze_L2, ze_L3, ze_L4, ze_L5, ze_L6, ze_L7, ze_L8, ze_L9, ze_L10, ze_L15, ze_L16, ze_L24, ze_L40, ze_L48, ze_L63, ze_L64, ze_L127, ze_L255, ze_L400, ze_L1024, ze_L2047, ze_L65535]
def zm_bw (b : Bool) (i : Nat) : Nat := (cond b [116, 114, 117, 101] [102, 97, 108, 115, 101] : List Nat).getD i 0
def zm_bl (b : Bool) : Nat := cond b 4 5
theorem zm_bw_lt (b : Bool) (i : Nat) (hi : i < zm_bl b) : zm_bw b i < 65536 := by
  cases b
  · have hi : i < 5 := hi
    have : i = 0 ∨ i = 1 ∨ i = 2 ∨ i = 3 ∨ i = 4 := by omega
    rcases this with rfl | rfl | rfl | rfl | rfl <;> decide
  · have hi : i < 4 := hi
    have : i = 0 ∨ i = 1 ∨ i = 2 ∨ i = 3 := by omega
    rcases this with rfl | rfl | rfl | rfl <;> decide
theorem zm_sc (b : Bool) (i : Nat) (hi : i < zm_bl b) : (zx_sc b i).toInt64 = lN (zm_bw b i) := by
  cases b
  · have hi : i < 5 := hi
    have : i = 0 ∨ i = 1 ∨ i = 2 ∨ i = 3 ∨ i = 4 := by omega
    rcases this with rfl | rfl | rfl | rfl | rfl <;> decide
  · have hi : i < 4 := hi
    have : i = 0 ∨ i = 1 ∨ i = 2 ∨ i = 3 := by omega
    rcases this with rfl | rfl | rfl | rfl <;> decide
theorem zm_sl (b : Bool) : zx_sl b = nI (zm_bl b) := by cases b <;> rfl
theorem zm_sn (b : Bool) : zx_sn b = zm_bl b := by cases b <;> rfl
theorem zm_C_word {n : Nat} {h : zx_H} (hn : n < 400) (b : Bool) : ∀ d i F s, i + d = zm_bl b → d < F → zg_I n h 14 (fun k => lN (zm_bw b k)) i s → ∃ s1, zx_loop (fun _ _ _ _ => none) zs_Converter_writeWord_L2_body F (nI n) b (nI i) s = some s1 ∧ zg_I n h 14 (fun k => lN (zm_bw b k)) (zm_bl b) s1 := by
  have hb : zm_bl b ≤ 5 := by cases b <;> decide
  intro d
  induction d with
  | zero =>
    intro i F s hi hF a
    obtain ⟨F, rfl⟩ : ∃ G, F = G + 1 := ⟨F - 1, by omega⟩
    have hi : i = zm_bl b := hi
    refine ⟨s, ?_, hi ▸ a⟩
    show zs_Converter_writeWord_L2_body _ (nI n) b (nI i) s = _
    simp (disch := omega) only [zs_Converter_writeWord_L2_body, zm_sl, ↓zd_bnd, ↓zy_bm, if_true, if_false, ite_true, ite_false, ↓reduceIte, Bool.false_eq_true, Bool.true_eq_false, eq_self, true_and, and_true, false_and, and_false, reduceCtorEq, decide_true, decide_false, not_true_eq_false, not_false_eq_true, ze_ltT, ze_ltF, ze_leT, ze_leF, ze_eqT, ze_eqF, ze_mlt, ze_ltm, ze_mle, ze_lem, ze_meq, ze_eqm, ze_mm, ze_mltm, ze_inT, ze_inF, ze_inM, ze_cl, ze_fin, ze_decT, ze_decF, Nat.reduceSub, Nat.reduceMul, nI_add, Nat.add_sub_cancel, Nat.add_assoc, Nat.reduceAdd, ze_r8, ze_r24, ze_r40, ze_r400, ze_l8, ze_l16, ze_l24, ze_l40, ze_sub, ze_am1, ze_es, ze_en, ze_i64, ze_m64, ze_64i, ze_64m, ze_LltT, ze_LltF, ze_LleT, ze_LleF, ze_LeqT, ze_LeqF, ze_Lmlt, ze_Lltm, ze_Lmle, ze_Llem, ze_Lmeq, ze_Leqm, ze_Lmm, lN_add, ze_ch, ze_chd, ze_bt, ze_bf, ze_n0, ze_n1, ze_n2, ze_n3, ze_n4, ze_n5, ze_n6, ze_n7, ze_n8, ze_n9, ze_n10, ze_n11, ze_n12, ze_n13, ze_n14, ze_n15, ze_n16, ze_n17, ze_n18, ze_n19, ze_n20, ze_n21, ze_n22, ze_n23, ze_n24, ze_n25, ze_n26, ze_n27, ze_n28, ze_n29, ze_n30, ze_n31, ze_n32, ze_n33, ze_n34, ze_n35, ze_n36, ze_n37, ze_n38, ze_n39, ze_n40, ze_n48, ze_n63, ze_n64, ze_n65, ze_n80, ze_n100, ze_n128, ze_n200, ze_n255, ze_n300, ze_n320, ze_n384, ze_n400, ze_n512, ze_n1023, ze_n1600, ze_n6400, ze_n9600, ze_n32768, ze_n65535, ze_n65536, ze_n802, ze_n8191, ze_L0, ze_L1, ze_L2, ze_L3, ze_L4, ze_L5, ze_L6, ze_L7, ze_L8, ze_L9, ze_L10, ze_L15, ze_L16, ze_L24, ze_L40, ze_L48, ze_L63, ze_L64, ze_L127, ze_L255, ze_L400, ze_L1024, ze_L2047, ze_L65535]
  | succ d ih =>
    intro i F s hi hF a
    obtain ⟨F, rfl⟩ : ∃ G, F = G + 1 := ⟨F - 1, by omega⟩
    obtain ⟨s1, e1, e2⟩ := zg_C_app1 hn (by omega) a
    obtain ⟨s2, e3, e4⟩ := ih (i + 1) F s1 (by omega) (by omega) e2
    refine ⟨s2, ?_, e4⟩
    rw [← e3]
    have e5 := zm_sc b i (by omega)
    show zs_Converter_writeWord_L2_body _ (nI n) b (nI i) s = _
    simp (disch := omega) only [zs_Converter_writeWord_L2_body, zm_sl, zm_sn, e5, e1, ↓zd_bnd, ↓zy_bm, if_true, if_false, ite_true, ite_false, ↓reduceIte, Bool.false_eq_true, Bool.true_eq_false, eq_self, true_and, and_true, false_and, and_false, reduceCtorEq, decide_true, decide_false, not_true_eq_false, not_false_eq_true, ze_ltT, ze_ltF, ze_leT, ze_leF, ze_eqT, ze_eqF, ze_mlt, ze_ltm, ze_mle, ze_lem, ze_meq, ze_eqm, ze_mm, ze_mltm, ze_inT, ze_inF, ze_inM, ze_cl, ze_fin, ze_decT, ze_decF, Nat.reduceSub, Nat.reduceMul, nI_add, Nat.add_sub_cancel, Nat.add_assoc, Nat.reduceAdd, ze_r8, ze_r24, ze_r40, ze_r400, ze_l8, ze_l16, ze_l24, ze_l40, ze_sub, ze_am1, ze_es, ze_en, ze_i64, ze_m64, ze_64i, ze_64m, ze_LltT, ze_LltF, ze_LleT, ze_LleF, ze_LeqT, ze_LeqF, ze_Lmlt, ze_Lltm, ze_Lmle, ze_Llem, ze_Lmeq, ze_Leqm, ze_Lmm, lN_add, ze_ch, ze_chd, ze_bt, ze_bf, ze_n0, ze_n1, ze_n2, ze_n3, ze_n4, ze_n5, ze_n6, ze_n7, ze_n8, ze_n9, ze_n10, ze_n11, ze_n12, ze_n13, ze_n14, ze_n15, ze_n16, ze_n17, ze_n18, ze_n19, ze_n20, ze_n21, ze_n22, ze_n23, ze_n24, ze_n25, ze_n26, ze_n27, ze_n28, ze_n29, ze_n30, ze_n31, ze_n32, ze_n33, ze_n34, ze_n35, ze_n36, ze_n37, ze_n38, ze_n39, ze_n40, ze_n48, ze_n63, ze_n64, ze_n65, ze_n80, ze_n100, ze_n128, ze_n200, ze_n255, ze_n300, ze_n320, ze_n384, ze_n400, ze_n512, ze_n1023, ze_n1600, ze_n6400, ze_n9600, ze_n32768, ze_n65535, ze_n65536, ze_n802, ze_n8191, ze_L0, ze_L1, ze_L2, ze_L3, ze_L4, ze_L5, ze_L6, ze_L7, ze_L8, ze_L9, ze_L10, ze_L15, ze_L16, ze_L24, ze_L40, ze_L48, ze_L63, ze_L64, ze_L127, ze_L255, ze_L400, ze_L1024, ze_L2047, ze_L65535]
    rfl
theorem zm_C_word0 (b : Bool) (s : zx_H) : ∀ d i F, i + d = zm_bl b → d < F → zx_loop (fun _ _ _ _ => none) zs_Converter_writeWord_L2_body F (-nI 1) b (nI i) s = some s := by
  have hb : zm_bl b ≤ 5 := by cases b <;> decide
  have hz : ∀ v, zs_Store_append (-nI 1) v s = some (false, s) := fun v => by simp (disch := omega) only [zs_Store_append, ze_ltm1, ↓zd_bnd, ↓zy_bm, if_true, if_false, ite_true, ite_false, ↓reduceIte, Bool.false_eq_true, Bool.true_eq_false, eq_self, true_and, and_true, false_and, and_false, reduceCtorEq, decide_true, decide_false, not_true_eq_false, not_false_eq_true, ze_ltT, ze_ltF, ze_leT, ze_leF, ze_eqT, ze_eqF, ze_mlt, ze_ltm, ze_mle, ze_lem, ze_meq, ze_eqm, ze_mm, ze_mltm, ze_inT, ze_inF, ze_inM, ze_cl, ze_fin, ze_decT, ze_decF, Nat.reduceSub, Nat.reduceMul, nI_add, Nat.add_sub_cancel, Nat.add_assoc, Nat.reduceAdd, ze_r8, ze_r24, ze_r40, ze_r400, ze_l8, ze_l16, ze_l24, ze_l40, ze_sub, ze_am1, ze_es, ze_en, ze_i64, ze_m64, ze_64i, ze_64m, ze_LltT, ze_LltF, ze_LleT, ze_LleF, ze_LeqT, ze_LeqF, ze_Lmlt, ze_Lltm, ze_Lmle, ze_Llem, ze_Lmeq, ze_Leqm, ze_Lmm, lN_add, ze_ch, ze_chd, ze_bt, ze_bf, ze_n0, ze_n1, ze_n2, ze_n3, ze_n4, ze_n5, ze_n6, ze_n7, ze_n8, ze_n9, ze_n10, ze_n11, ze_n12, ze_n13, ze_n14, ze_n15, ze_n16, ze_n17, ze_n18, ze_n19, ze_n20, ze_n21, ze_n22, ze_n23, ze_n24, ze_n25, ze_n26, ze_n27, ze_n28, ze_n29, ze_n30, ze_n31, ze_n32, ze_n33, ze_n34, ze_n35, ze_n36, ze_n37, ze_n38, ze_n39, ze_n40, ze_n48, ze_n63, ze_n64, ze_n65, ze_n80, ze_n100, ze_n128, ze_n200, ze_n255, ze_n300, ze_n320, ze_n384, ze_n400, ze_n512, ze_n1023, ze_n1600, ze_n6400, ze_n9600, ze_n32768, ze_n65535, ze_n65536, ze_n802, ze_n8191, ze_L0, ze_L1, ze_L2, ze_L3, ze_L4, ze_L5, ze_L6, ze_L7, ze_L8, ze_L9, ze_L10, ze_L15, ze_L16, ze_L24, ze_L40, ze_L48, ze_L63, ze_L64, ze_L127, ze_L255, ze_L400, ze_L1024, ze_L2047, ze_L65535]
  intro d
  induction d with
  | zero =>
    intro i F hi hF
    obtain ⟨F, rfl⟩ : ∃ G, F = G + 1 := ⟨F - 1, by omega⟩
    have hi : i = zm_bl b := hi
    show zs_Converter_writeWord_L2_body _ (-nI 1) b (nI i) s = _
    simp (disch := omega) only [zs_Converter_writeWord_L2_body, zm_sl, ↓zd_bnd, ↓zy_bm, if_true, if_false, ite_true, ite_false, ↓reduceIte, Bool.false_eq_true, Bool.true_eq_false, eq_self, true_and, and_true, false_and, and_false, reduceCtorEq, decide_true, decide_false, not_true_eq_false, not_false_eq_true, ze_ltT, ze_ltF, ze_leT, ze_leF, ze_eqT, ze_eqF, ze_mlt, ze_ltm, ze_mle, ze_lem, ze_meq, ze_eqm, ze_mm, ze_mltm, ze_inT, ze_inF, ze_inM, ze_cl, ze_fin, ze_decT, ze_decF, Nat.reduceSub, Nat.reduceMul, nI_add, Nat.add_sub_cancel, Nat.add_assoc, Nat.reduceAdd, ze_r8, ze_r24, ze_r40, ze_r400, ze_l8, ze_l16, ze_l24, ze_l40, ze_sub, ze_am1, ze_es, ze_en, ze_i64, ze_m64, ze_64i, ze_64m, ze_LltT, ze_LltF, ze_LleT, ze_LleF, ze_LeqT, ze_LeqF, ze_Lmlt, ze_Lltm, ze_Lmle, ze_Llem, ze_Lmeq, ze_Leqm, ze_Lmm, lN_add, ze_ch, ze_chd, ze_bt, ze_bf, ze_n0, ze_n1, ze_n2, ze_n3, ze_n4, ze_n5, ze_n6, ze_n7, ze_n8, ze_n9, ze_n10, ze_n11, ze_n12, ze_n13, ze_n14, ze_n15, ze_n16, ze_n17, ze_n18, ze_n19, ze_n20, ze_n21, ze_n22, ze_n23, ze_n24, ze_n25, ze_n26, ze_n27, ze_n28, ze_n29, ze_n30, ze_n31, ze_n32, ze_n33, ze_n34, ze_n35, ze_n36, ze_n37, ze_n38, ze_n39, ze_n40, ze_n48, ze_n63, ze_n64, ze_n65, ze_n80, ze_n100, ze_n128, ze_n200, ze_n255, ze_n300, ze_n320, ze_n384, ze_n400, ze_n512, ze_n1023, ze_n1600, ze_n6400, ze_n9600, ze_n32768, ze_n65535, ze_n65536, ze_n802, ze_n8191, ze_L0, ze_L1, ze_L2, ze_L3, ze_L4, ze_L5, ze_L6, ze_L7, ze_L8, ze_L9, ze_L10, ze_L15, ze_L16, ze_L24, ze_L40, ze_L48, ze_L63, ze_L64, ze_L127, ze_L255, ze_L400, ze_L1024, ze_L2047, ze_L65535]
  | succ d ih =>
    intro i F hi hF
    obtain ⟨F, rfl⟩ : ∃ G, F = G + 1 := ⟨F - 1, by omega⟩
    rw [← ih (i + 1) F (by omega) (by omega)]
    show zs_Converter_writeWord_L2_body _ (-nI 1) b (nI i) s = _
    simp (disch := omega) only [zs_Converter_writeWord_L2_body, zm_sl, zm_sn, hz, ↓zd_bnd, ↓zy_bm, if_true, if_false, ite_true, ite_false, ↓reduceIte, Bool.false_eq_true, Bool.true_eq_false, eq_self, true_and, and_true, false_and, and_false, reduceCtorEq, decide_true, decide_false, not_true_eq_false, not_false_eq_true, ze_ltT, ze_ltF, ze_leT, ze_leF, ze_eqT, ze_eqF, ze_mlt, ze_ltm, ze_mle, ze_lem, ze_meq, ze_eqm, ze_mm, ze_mltm, ze_inT, ze_inF, ze_inM, ze_cl, ze_fin, ze_decT, ze_decF, Nat.reduceSub, Nat.reduceMul, nI_add, Nat.add_sub_cancel, Nat.add_assoc, Nat.reduceAdd, ze_r8, ze_r24, ze_r40, ze_r400, ze_l8, ze_l16, ze_l24, ze_l40, ze_sub, ze_am1, ze_es, ze_en, ze_i64, ze_m64, ze_64i, ze_64m, ze_LltT, ze_LltF, ze_LleT, ze_LleF, ze_LeqT, ze_LeqF, ze_Lmlt, ze_Lltm, ze_Lmle, ze_Llem, ze_Lmeq, ze_Leqm, ze_Lmm, lN_add, ze_ch, ze_chd, ze_bt, ze_bf, ze_n0, ze_n1, ze_n2, ze_n3, ze_n4, ze_n5, ze_n6, ze_n7, ze_n8, ze_n9, ze_n10, ze_n11, ze_n12, ze_n13, ze_n14, ze_n15, ze_n16, ze_n17, ze_n18, ze_n19, ze_n20, ze_n21, ze_n22, ze_n23, ze_n24, ze_n25, ze_n26, ze_n27, ze_n28, ze_n29, ze_n30, ze_n31, ze_n32, ze_n33, ze_n34, ze_n35, ze_n36, ze_n37, ze_n38, ze_n39, ze_n40, ze_n48, ze_n63, ze_n64, ze_n65, ze_n80, ze_n100, ze_n128, ze_n200, ze_n255, ze_n300, ze_n320, ze_n384, ze_n400, ze_n512, ze_n1023, ze_n1600, ze_n6400, ze_n9600, ze_n32768, ze_n65535, ze_n65536, ze_n802, ze_n8191, ze_L0, ze_L1, ze_L2, ze_L3, ze_L4, ze_L5, ze_L6, ze_L7, ze_L8, ze_L9, ze_L10, ze_L15, ze_L16, ze_L24, ze_L40, ze_L48, ze_L63, ze_L64, ze_L127, ze_L255, ze_L400, ze_L1024, ze_L2047, ze_L65535]
    rfl
/-- the text of an amount: its length and characters -/
def zm_pt (kd : Nat) (x : Int64) : Nat × (Nat → Nat) := if kd = 5 then (if x = lN 1 then (zm_bl true, zm_bw true) else (zm_bl false, zm_bw false)) else if kd = 2 then (1, fun _ => zn_u x) else (zm_tl (if lN 0 ≤ x then 0 else 45) x.toInt.natAbs, zm_tx (if lN 0 ≤ x then 0 else 45) x.toInt.natAbs)
theorem zm_natA (x : Int64) : zm_is x x.toInt.natAbs ∧ (if (0 : Int64) ≤ x then -x else x) = -lN x.toInt.natAbs := by
  obtain ⟨u, h1, h2⟩ := zm_nat x
  have : u = x.toInt.natAbs := by
    obtain ⟨a, ⟨b, c⟩ | ⟨b, c⟩⟩ := h1
    · rw [b, zm_lnI c]; omega
    · rw [b, zm_ngI a]; omega
  rw [← this]
  exact ⟨h1, h2⟩
theorem zm_pt_ok {kd : Nat} {x : Int64} (hx : zn_ok kd x) : (zm_pt kd x).1 ≤ 24 ∧ ∀ i, i < (zm_pt kd x).1 → (zm_pt kd x).2 i < 65536 := by
  unfold zm_pt
  by_cases c5 : kd = 5
  · rw [if_pos c5]
    by_cases c1 : x = lN 1
    · rw [if_pos c1]; exact ⟨by decide, fun i hi => zm_bw_lt true i hi⟩
    · rw [if_neg c1]; exact ⟨by decide, fun i hi => zm_bw_lt false i hi⟩
  · rw [if_neg c5]
    by_cases c2 : kd = 2
    · rw [if_pos c2]
      subst c2
      refine ⟨(show 1 ≤ 24 by decide), fun i hi => ?_⟩
      have hx : lN 0 ≤ x ∧ x ≤ lN 65535 := hx
      have := (zn_ulo x (p := 65536) (by decide)).mpr ⟨hx.1, by
        have := hx.2
        rw [Int64.le_iff_toInt_le] at this
        rw [Int64.lt_iff_toInt_lt]
        have e1 : (lN 65535).toInt = 65535 := by decide
        have e2 : (lN 65536).toInt = 65536 := by decide
        omega⟩
      exact this
    · rw [if_neg c2]
      refine ⟨zm_tl_le (zm_natA x).1.1, fun i hi => zm_tx_lt (by split <;> omega)⟩
theorem zm_C_writePlain {n : Nat} {h s : zx_H} (hn : n < 400) {kd : Nat} (hk : kd < 7) {x : Int64} (hx : zn_ok kd x) (a : ∀ f, zg_I n h 14 f 0 s) : ∃ s1, zs_Converter_writePlain (nI n) (nI kd) x s = some s1 ∧ zg_I n h 14 (fun k => lN ((zm_pt kd x).2 k)) (zm_pt kd x).1 s1 := by
  unfold zm_pt
  by_cases c5 : kd = 5
  · rw [if_pos c5]
    have key : ∀ b, ∃ s1, zs_Converter_writeWord_L2 (nI n) b (nI 0) s = some s1 ∧ zg_I n h 14 (fun k => lN (zm_bw b k)) (zm_bl b) s1 := fun b => zm_C_word hn b (zm_bl b) 0 zx_fuel s (by omega) (by unfold zx_fuel; cases b <;> decide) (a _)
    by_cases c1 : x = lN 1
    · rw [if_pos c1]
      obtain ⟨s1, e1, e2⟩ := key true
      exact ⟨s1, by simp (disch := omega) only [zs_Converter_writePlain, zs_Converter_writePlain_J20, zs_Converter_writeWord, c5, c1, e1, ↓zd_bnd, ↓zy_bm, if_true, if_false, ite_true, ite_false, ↓reduceIte, Bool.false_eq_true, Bool.true_eq_false, eq_self, true_and, and_true, false_and, and_false, reduceCtorEq, decide_true, decide_false, not_true_eq_false, not_false_eq_true, ze_ltT, ze_ltF, ze_leT, ze_leF, ze_eqT, ze_eqF, ze_mlt, ze_ltm, ze_mle, ze_lem, ze_meq, ze_eqm, ze_mm, ze_mltm, ze_inT, ze_inF, ze_inM, ze_cl, ze_fin, ze_decT, ze_decF, Nat.reduceSub, Nat.reduceMul, nI_add, Nat.add_sub_cancel, Nat.add_assoc, Nat.reduceAdd, ze_r8, ze_r24, ze_r40, ze_r400, ze_l8, ze_l16, ze_l24, ze_l40, ze_sub, ze_am1, ze_es, ze_en, ze_i64, ze_m64, ze_64i, ze_64m, ze_LltT, ze_LltF, ze_LleT, ze_LleF, ze_LeqT, ze_LeqF, ze_Lmlt, ze_Lltm, ze_Lmle, ze_Llem, ze_Lmeq, ze_Leqm, ze_Lmm, lN_add, ze_ch, ze_chd, ze_bt, ze_bf, ze_n0, ze_n1, ze_n2, ze_n3, ze_n4, ze_n5, ze_n6, ze_n7, ze_n8, ze_n9, ze_n10, ze_n11, ze_n12, ze_n13, ze_n14, ze_n15, ze_n16, ze_n17, ze_n18, ze_n19, ze_n20, ze_n21, ze_n22, ze_n23, ze_n24, ze_n25, ze_n26, ze_n27, ze_n28, ze_n29, ze_n30, ze_n31, ze_n32, ze_n33, ze_n34, ze_n35, ze_n36, ze_n37, ze_n38, ze_n39, ze_n40, ze_n48, ze_n63, ze_n64, ze_n65, ze_n80, ze_n100, ze_n128, ze_n200, ze_n255, ze_n300, ze_n320, ze_n384, ze_n400, ze_n512, ze_n1023, ze_n1600, ze_n6400, ze_n9600, ze_n32768, ze_n65535, ze_n65536, ze_n802, ze_n8191, ze_L0, ze_L1, ze_L2, ze_L3, ze_L4, ze_L5, ze_L6, ze_L7, ze_L8, ze_L9, ze_L10, ze_L15, ze_L16, ze_L24, ze_L40, ze_L48, ze_L63, ze_L64, ze_L127, ze_L255, ze_L400, ze_L1024, ze_L2047, ze_L65535], e2⟩
    · rw [if_neg c1]
      obtain ⟨s1, e1, e2⟩ := key false
      exact ⟨s1, by simp (disch := omega) only [zs_Converter_writePlain, zs_Converter_writePlain_J20, zs_Converter_writeWord, c5, c1, e1, ↓zd_bnd, ↓zy_bm, if_true, if_false, ite_true, ite_false, ↓reduceIte, Bool.false_eq_true, Bool.true_eq_false, eq_self, true_and, and_true, false_and, and_false, reduceCtorEq, decide_true, decide_false, not_true_eq_false, not_false_eq_true, ze_ltT, ze_ltF, ze_leT, ze_leF, ze_eqT, ze_eqF, ze_mlt, ze_ltm, ze_mle, ze_lem, ze_meq, ze_eqm, ze_mm, ze_mltm, ze_inT, ze_inF, ze_inM, ze_cl, ze_fin, ze_decT, ze_decF, Nat.reduceSub, Nat.reduceMul, nI_add, Nat.add_sub_cancel, Nat.add_assoc, Nat.reduceAdd, ze_r8, ze_r24, ze_r40, ze_r400, ze_l8, ze_l16, ze_l24, ze_l40, ze_sub, ze_am1, ze_es, ze_en, ze_i64, ze_m64, ze_64i, ze_64m, ze_LltT, ze_LltF, ze_LleT, ze_LleF, ze_LeqT, ze_LeqF, ze_Lmlt, ze_Lltm, ze_Lmle, ze_Llem, ze_Lmeq, ze_Leqm, ze_Lmm, lN_add, ze_ch, ze_chd, ze_bt, ze_bf, ze_n0, ze_n1, ze_n2, ze_n3, ze_n4, ze_n5, ze_n6, ze_n7, ze_n8, ze_n9, ze_n10, ze_n11, ze_n12, ze_n13, ze_n14, ze_n15, ze_n16, ze_n17, ze_n18, ze_n19, ze_n20, ze_n21, ze_n22, ze_n23, ze_n24, ze_n25, ze_n26, ze_n27, ze_n28, ze_n29, ze_n30, ze_n31, ze_n32, ze_n33, ze_n34, ze_n35, ze_n36, ze_n37, ze_n38, ze_n39, ze_n40, ze_n48, ze_n63, ze_n64, ze_n65, ze_n80, ze_n100, ze_n128, ze_n200, ze_n255, ze_n300, ze_n320, ze_n384, ze_n400, ze_n512, ze_n1023, ze_n1600, ze_n6400, ze_n9600, ze_n32768, ze_n65535, ze_n65536, ze_n802, ze_n8191, ze_L0, ze_L1, ze_L2, ze_L3, ze_L4, ze_L5, ze_L6, ze_L7, ze_L8, ze_L9, ze_L10, ze_L15, ze_L16, ze_L24, ze_L40, ze_L48, ze_L63, ze_L64, ze_L127, ze_L255, ze_L400, ze_L1024, ze_L2047, ze_L65535], e2⟩
  · rw [if_neg c5]
    by_cases c2 : kd = 2
    · rw [if_pos c2]
      obtain ⟨s1, e1, e2⟩ := zg_C_app1 hn (by omega) (a (fun _ => lN (zn_u x)))
      rw [← zn_u_eq x] at e1
      exact ⟨s1, by simp (disch := omega) only [zs_Converter_writePlain, c2, e1, ↓zd_bnd, ↓zy_bm, if_true, if_false, ite_true, ite_false, ↓reduceIte, Bool.false_eq_true, Bool.true_eq_false, eq_self, true_and, and_true, false_and, and_false, reduceCtorEq, decide_true, decide_false, not_true_eq_false, not_false_eq_true, ze_ltT, ze_ltF, ze_leT, ze_leF, ze_eqT, ze_eqF, ze_mlt, ze_ltm, ze_mle, ze_lem, ze_meq, ze_eqm, ze_mm, ze_mltm, ze_inT, ze_inF, ze_inM, ze_cl, ze_fin, ze_decT, ze_decF, Nat.reduceSub, Nat.reduceMul, nI_add, Nat.add_sub_cancel, Nat.add_assoc, Nat.reduceAdd, ze_r8, ze_r24, ze_r40, ze_r400, ze_l8, ze_l16, ze_l24, ze_l40, ze_sub, ze_am1, ze_es, ze_en, ze_i64, ze_m64, ze_64i, ze_64m, ze_LltT, ze_LltF, ze_LleT, ze_LleF, ze_LeqT, ze_LeqF, ze_Lmlt, ze_Lltm, ze_Lmle, ze_Llem, ze_Lmeq, ze_Leqm, ze_Lmm, lN_add, ze_ch, ze_chd, ze_bt, ze_bf, ze_n0, ze_n1, ze_n2, ze_n3, ze_n4, ze_n5, ze_n6, ze_n7, ze_n8, ze_n9, ze_n10, ze_n11, ze_n12, ze_n13, ze_n14, ze_n15, ze_n16, ze_n17, ze_n18, ze_n19, ze_n20, ze_n21, ze_n22, ze_n23, ze_n24, ze_n25, ze_n26, ze_n27, ze_n28, ze_n29, ze_n30, ze_n31, ze_n32, ze_n33, ze_n34, ze_n35, ze_n36, ze_n37, ze_n38, ze_n39, ze_n40, ze_n48, ze_n63, ze_n64, ze_n65, ze_n80, ze_n100, ze_n128, ze_n200, ze_n255, ze_n300, ze_n320, ze_n384, ze_n400, ze_n512, ze_n1023, ze_n1600, ze_n6400, ze_n9600, ze_n32768, ze_n65535, ze_n65536, ze_n802, ze_n8191, ze_L0, ze_L1, ze_L2, ze_L3, ze_L4, ze_L5, ze_L6, ze_L7, ze_L8, ze_L9, ze_L10, ze_L15, ze_L16, ze_L24, ze_L40, ze_L48, ze_L63, ze_L64, ze_L127, ze_L255, ze_L400, ze_L1024, ze_L2047, ze_L65535], e2⟩
    · rw [if_neg c2]
      obtain ⟨h1, h2⟩ := zm_natA x
      by_cases c0 : lN 0 ≤ x
      · rw [if_pos c0]
        obtain ⟨s1, e1, e2⟩ := zm_C_writeNumber hn h1.1 (c := 0) (by decide) h2 a
        exact ⟨s1, by simp (disch := omega) only [zs_Converter_writePlain, zs_Converter_writePlain_J58, c5, c2, c0, e1, ↓zd_bnd, ↓zy_bm, if_true, if_false, ite_true, ite_false, ↓reduceIte, Bool.false_eq_true, Bool.true_eq_false, eq_self, true_and, and_true, false_and, and_false, reduceCtorEq, decide_true, decide_false, not_true_eq_false, not_false_eq_true, ze_ltT, ze_ltF, ze_leT, ze_leF, ze_eqT, ze_eqF, ze_mlt, ze_ltm, ze_mle, ze_lem, ze_meq, ze_eqm, ze_mm, ze_mltm, ze_inT, ze_inF, ze_inM, ze_cl, ze_fin, ze_decT, ze_decF, Nat.reduceSub, Nat.reduceMul, nI_add, Nat.add_sub_cancel, Nat.add_assoc, Nat.reduceAdd, ze_r8, ze_r24, ze_r40, ze_r400, ze_l8, ze_l16, ze_l24, ze_l40, ze_sub, ze_am1, ze_es, ze_en, ze_i64, ze_m64, ze_64i, ze_64m, ze_LltT, ze_LltF, ze_LleT, ze_LleF, ze_LeqT, ze_LeqF, ze_Lmlt, ze_Lltm, ze_Lmle, ze_Llem, ze_Lmeq, ze_Leqm, ze_Lmm, lN_add, ze_ch, ze_chd, ze_bt, ze_bf, ze_n0, ze_n1, ze_n2, ze_n3, ze_n4, ze_n5, ze_n6, ze_n7, ze_n8, ze_n9, ze_n10, ze_n11, ze_n12, ze_n13, ze_n14, ze_n15, ze_n16, ze_n17, ze_n18, ze_n19, ze_n20, ze_n21, ze_n22, ze_n23, ze_n24, ze_n25, ze_n26, ze_n27, ze_n28, ze_n29, ze_n30, ze_n31, ze_n32, ze_n33, ze_n34, ze_n35, ze_n36, ze_n37, ze_n38, ze_n39, ze_n40, ze_n48, ze_n63, ze_n64, ze_n65, ze_n80, ze_n100, ze_n128, ze_n200, ze_n255, ze_n300, ze_n320, ze_n384, ze_n400, ze_n512, ze_n1023, ze_n1600, ze_n6400, ze_n9600, ze_n32768, ze_n65535, ze_n65536, ze_n802, ze_n8191, ze_L0, ze_L1, ze_L2, ze_L3, ze_L4, ze_L5, ze_L6, ze_L7, ze_L8, ze_L9, ze_L10, ze_L15, ze_L16, ze_L24, ze_L40, ze_L48, ze_L63, ze_L64, ze_L127, ze_L255, ze_L400, ze_L1024, ze_L2047, ze_L65535], e2⟩
      · rw [if_neg c0]
        obtain ⟨s1, e1, e2⟩ := zm_C_writeNumber hn h1.1 (c := 45) (by decide) h2 a
        exact ⟨s1, by simp (disch := omega) only [zs_Converter_writePlain, zs_Converter_writePlain_J58, c5, c2, c0, ze_n45, e1, ↓zd_bnd, ↓zy_bm, if_true, if_false, ite_true, ite_false, ↓reduceIte, Bool.false_eq_true, Bool.true_eq_false, eq_self, true_and, and_true, false_and, and_false, reduceCtorEq, decide_true, decide_false, not_true_eq_false, not_false_eq_true, ze_ltT, ze_ltF, ze_leT, ze_leF, ze_eqT, ze_eqF, ze_mlt, ze_ltm, ze_mle, ze_lem, ze_meq, ze_eqm, ze_mm, ze_mltm, ze_inT, ze_inF, ze_inM, ze_cl, ze_fin, ze_decT, ze_decF, Nat.reduceSub, Nat.reduceMul, nI_add, Nat.add_sub_cancel, Nat.add_assoc, Nat.reduceAdd, ze_r8, ze_r24, ze_r40, ze_r400, ze_l8, ze_l16, ze_l24, ze_l40, ze_sub, ze_am1, ze_es, ze_en, ze_i64, ze_m64, ze_64i, ze_64m, ze_LltT, ze_LltF, ze_LleT, ze_LleF, ze_LeqT, ze_LeqF, ze_Lmlt, ze_Lltm, ze_Lmle, ze_Llem, ze_Lmeq, ze_Leqm, ze_Lmm, lN_add, ze_ch, ze_chd, ze_bt, ze_bf, ze_n0, ze_n1, ze_n2, ze_n3, ze_n4, ze_n5, ze_n6, ze_n7, ze_n8, ze_n9, ze_n10, ze_n11, ze_n12, ze_n13, ze_n14, ze_n15, ze_n16, ze_n17, ze_n18, ze_n19, ze_n20, ze_n21, ze_n22, ze_n23, ze_n24, ze_n25, ze_n26, ze_n27, ze_n28, ze_n29, ze_n30, ze_n31, ze_n32, ze_n33, ze_n34, ze_n35, ze_n36, ze_n37, ze_n38, ze_n39, ze_n40, ze_n48, ze_n63, ze_n64, ze_n65, ze_n80, ze_n100, ze_n128, ze_n200, ze_n255, ze_n300, ze_n320, ze_n384, ze_n400, ze_n512, ze_n1023, ze_n1600, ze_n6400, ze_n9600, ze_n32768, ze_n65535, ze_n65536, ze_n802, ze_n8191, ze_L0, ze_L1, ze_L2, ze_L3, ze_L4, ze_L5, ze_L6, ze_L7, ze_L8, ze_L9, ze_L10, ze_L15, ze_L16, ze_L24, ze_L40, ze_L48, ze_L63, ze_L64, ze_L127, ze_L255, ze_L400, ze_L1024, ze_L2047, ze_L65535], e2⟩
theorem zm_C_writePlain0 {kd : Nat} (hk : kd < 7) (x : Int64) (s : zx_H) : zs_Converter_writePlain (-nI 1) (nI kd) x s = some s := by
  have hz : ∀ v, zs_Store_append (-nI 1) v s = some (false, s) := fun v => by simp (disch := omega) only [zs_Store_append, ze_ltm1, ↓zd_bnd, ↓zy_bm, if_true, if_false, ite_true, ite_false, ↓reduceIte, Bool.false_eq_true, Bool.true_eq_false, eq_self, true_and, and_true, false_and, and_false, reduceCtorEq, decide_true, decide_false, not_true_eq_false, not_false_eq_true, ze_ltT, ze_ltF, ze_leT, ze_leF, ze_eqT, ze_eqF, ze_mlt, ze_ltm, ze_mle, ze_lem, ze_meq, ze_eqm, ze_mm, ze_mltm, ze_inT, ze_inF, ze_inM, ze_cl, ze_fin, ze_decT, ze_decF, Nat.reduceSub, Nat.reduceMul, nI_add, Nat.add_sub_cancel, Nat.add_assoc, Nat.reduceAdd, ze_r8, ze_r24, ze_r40, ze_r400, ze_l8, ze_l16, ze_l24, ze_l40, ze_sub, ze_am1, ze_es, ze_en, ze_i64, ze_m64, ze_64i, ze_64m, ze_LltT, ze_LltF, ze_LleT, ze_LleF, ze_LeqT, ze_LeqF, ze_Lmlt, ze_Lltm, ze_Lmle, ze_Llem, ze_Lmeq, ze_Leqm, ze_Lmm, lN_add, ze_ch, ze_chd, ze_bt, ze_bf, ze_n0, ze_n1, ze_n2, ze_n3, ze_n4, ze_n5, ze_n6, ze_n7, ze_n8, ze_n9, ze_n10, ze_n11, ze_n12, ze_n13, ze_n14, ze_n15, ze_n16, ze_n17, ze_n18, ze_n19, ze_n20, ze_n21, ze_n22, ze_n23, ze_n24, ze_n25, ze_n26, ze_n27, ze_n28, ze_n29, ze_n30, ze_n31, ze_n32, ze_n33, ze_n34, ze_n35, ze_n36, ze_n37, ze_n38, ze_n39, ze_n40, ze_n48, ze_n63, ze_n64, ze_n65, ze_n80, ze_n100, ze_n128, ze_n200, ze_n255, ze_n300, ze_n320, ze_n384, ze_n400, ze_n512, ze_n1023, ze_n1600, ze_n6400, ze_n9600, ze_n32768, ze_n65535, ze_n65536, ze_n802, ze_n8191, ze_L0, ze_L1, ze_L2, ze_L3, ze_L4, ze_L5, ze_L6, ze_L7, ze_L8, ze_L9, ze_L10, ze_L15, ze_L16, ze_L24, ze_L40, ze_L48, ze_L63, ze_L64, ze_L127, ze_L255, ze_L400, ze_L1024, ze_L2047, ze_L65535]
  by_cases c5 : kd = 5
  · have key : ∀ b, zs_Converter_writeWord_L2 (-nI 1) b (nI 0) s = some s := fun b => zm_C_word0 b s (zm_bl b) 0 zx_fuel (by omega) (by unfold zx_fuel; cases b <;> decide)
    by_cases c1 : x = lN 1
    · simp (disch := omega) only [zs_Converter_writePlain, zs_Converter_writePlain_J20, zs_Converter_writeWord, c5, c1, key, ↓zd_bnd, ↓zy_bm, if_true, if_false, ite_true, ite_false, ↓reduceIte, Bool.false_eq_true, Bool.true_eq_false, eq_self, true_and, and_true, false_and, and_false, reduceCtorEq, decide_true, decide_false, not_true_eq_false, not_false_eq_true, ze_ltT, ze_ltF, ze_leT, ze_leF, ze_eqT, ze_eqF, ze_mlt, ze_ltm, ze_mle, ze_lem, ze_meq, ze_eqm, ze_mm, ze_mltm, ze_inT, ze_inF, ze_inM, ze_cl, ze_fin, ze_decT, ze_decF, Nat.reduceSub, Nat.reduceMul, nI_add, Nat.add_sub_cancel, Nat.add_assoc, Nat.reduceAdd, ze_r8, ze_r24, ze_r40, ze_r400, ze_l8, ze_l16, ze_l24, ze_l40, ze_sub, ze_am1, ze_es, ze_en, ze_i64, ze_m64, ze_64i, ze_64m, ze_LltT, ze_LltF, ze_LleT, ze_LleF, ze_LeqT, ze_LeqF, ze_Lmlt, ze_Lltm, ze_Lmle, ze_Llem, ze_Lmeq, ze_Leqm, ze_Lmm, lN_add, ze_ch, ze_chd, ze_bt, ze_bf, ze_n0, ze_n1, ze_n2, ze_n3, ze_n4, ze_n5, ze_n6, ze_n7, ze_n8, ze_n9, ze_n10, ze_n11, ze_n12, ze_n13, ze_n14, ze_n15, ze_n16, ze_n17, ze_n18, ze_n19, ze_n20, ze_n21, ze_n22, ze_n23, ze_n24, ze_n25, ze_n26, ze_n27, ze_n28, ze_n29, ze_n30, ze_n31, ze_n32, ze_n33, ze_n34, ze_n35, ze_n36, ze_n37, ze_n38, ze_n39, ze_n40, ze_n48, ze_n63, ze_n64, ze_n65, ze_n80, ze_n100, ze_n128, ze_n200, ze_n255, ze_n300, ze_n320, ze_n384, ze_n400, ze_n512, ze_n1023, ze_n1600, ze_n6400, ze_n9600, ze_n32768, ze_n65535, ze_n65536, ze_n802, ze_n8191, ze_L0, ze_L1, ze_L2, ze_L3, ze_L4, ze_L5, ze_L6, ze_L7, ze_L8, ze_L9, ze_L10, ze_L15, ze_L16, ze_L24, ze_L40, ze_L48, ze_L63, ze_L64, ze_L127, ze_L255, ze_L400, ze_L1024, ze_L2047, ze_L65535]
    · simp (disch := omega) only [zs_Converter_writePlain, zs_Converter_writePlain_J20, zs_Converter_writeWord, c5, c1, key, ↓zd_bnd, ↓zy_bm, if_true, if_false, ite_true, ite_false, ↓reduceIte, Bool.false_eq_true, Bool.true_eq_false, eq_self, true_and, and_true, false_and, and_false, reduceCtorEq, decide_true, decide_false, not_true_eq_false, not_false_eq_true, ze_ltT, ze_ltF, ze_leT, ze_leF, ze_eqT, ze_eqF, ze_mlt, ze_ltm, ze_mle, ze_lem, ze_meq, ze_eqm, ze_mm, ze_mltm, ze_inT, ze_inF, ze_inM, ze_cl, ze_fin, ze_decT, ze_decF, Nat.reduceSub, Nat.reduceMul, nI_add, Nat.add_sub_cancel, Nat.add_assoc, Nat.reduceAdd, ze_r8, ze_r24, ze_r40, ze_r400, ze_l8, ze_l16, ze_l24, ze_l40, ze_sub, ze_am1, ze_es, ze_en, ze_i64, ze_m64, ze_64i, ze_64m, ze_LltT, ze_LltF, ze_LleT, ze_LleF, ze_LeqT, ze_LeqF, ze_Lmlt, ze_Lltm, ze_Lmle, ze_Llem, ze_Lmeq, ze_Leqm, ze_Lmm, lN_add, ze_ch, ze_chd, ze_bt, ze_bf, ze_n0, ze_n1, ze_n2, ze_n3, ze_n4, ze_n5, ze_n6, ze_n7, ze_n8, ze_n9, ze_n10, ze_n11, ze_n12, ze_n13, ze_n14, ze_n15, ze_n16, ze_n17, ze_n18, ze_n19, ze_n20, ze_n21, ze_n22, ze_n23, ze_n24, ze_n25, ze_n26, ze_n27, ze_n28, ze_n29, ze_n30, ze_n31, ze_n32, ze_n33, ze_n34, ze_n35, ze_n36, ze_n37, ze_n38, ze_n39, ze_n40, ze_n48, ze_n63, ze_n64, ze_n65, ze_n80, ze_n100, ze_n128, ze_n200, ze_n255, ze_n300, ze_n320, ze_n384, ze_n400, ze_n512, ze_n1023, ze_n1600, ze_n6400, ze_n9600, ze_n32768, ze_n65535, ze_n65536, ze_n802, ze_n8191, ze_L0, ze_L1, ze_L2, ze_L3, ze_L4, ze_L5, ze_L6, ze_L7, ze_L8, ze_L9, ze_L10, ze_L15, ze_L16, ze_L24, ze_L40, ze_L48, ze_L63, ze_L64, ze_L127, ze_L255, ze_L400, ze_L1024, ze_L2047, ze_L65535]
  · by_cases c2 : kd = 2
    · simp (disch := omega) only [zs_Converter_writePlain, c2, hz, ↓zd_bnd, ↓zy_bm, if_true, if_false, ite_true, ite_false, ↓reduceIte, Bool.false_eq_true, Bool.true_eq_false, eq_self, true_and, and_true, false_and, and_false, reduceCtorEq, decide_true, decide_false, not_true_eq_false, not_false_eq_true, ze_ltT, ze_ltF, ze_leT, ze_leF, ze_eqT, ze_eqF, ze_mlt, ze_ltm, ze_mle, ze_lem, ze_meq, ze_eqm, ze_mm, ze_mltm, ze_inT, ze_inF, ze_inM, ze_cl, ze_fin, ze_decT, ze_decF, Nat.reduceSub, Nat.reduceMul, nI_add, Nat.add_sub_cancel, Nat.add_assoc, Nat.reduceAdd, ze_r8, ze_r24, ze_r40, ze_r400, ze_l8, ze_l16, ze_l24, ze_l40, ze_sub, ze_am1, ze_es, ze_en, ze_i64, ze_m64, ze_64i, ze_64m, ze_LltT, ze_LltF, ze_LleT, ze_LleF, ze_LeqT, ze_LeqF, ze_Lmlt, ze_Lltm, ze_Lmle, ze_Llem, ze_Lmeq, ze_Leqm, ze_Lmm, lN_add, ze_ch, ze_chd, ze_bt, ze_bf, ze_n0, ze_n1, ze_n2, ze_n3, ze_n4, ze_n5, ze_n6, ze_n7, ze_n8, ze_n9, ze_n10, ze_n11, ze_n12, ze_n13, ze_n14, ze_n15, ze_n16, ze_n17, ze_n18, ze_n19, ze_n20, ze_n21, ze_n22, ze_n23, ze_n24, ze_n25, ze_n26, ze_n27, ze_n28, ze_n29, ze_n30, ze_n31, ze_n32, ze_n33, ze_n34, ze_n35, ze_n36, ze_n37, ze_n38, ze_n39, ze_n40, ze_n48, ze_n63, ze_n64, ze_n65, ze_n80, ze_n100, ze_n128, ze_n200, ze_n255, ze_n300, ze_n320, ze_n384, ze_n400, ze_n512, ze_n1023, ze_n1600, ze_n6400, ze_n9600, ze_n32768, ze_n65535, ze_n65536, ze_n802, ze_n8191, ze_L0, ze_L1, ze_L2, ze_L3, ze_L4, ze_L5, ze_L6, ze_L7, ze_L8, ze_L9, ze_L10, ze_L15, ze_L16, ze_L24, ze_L40, ze_L48, ze_L63, ze_L64, ze_L127, ze_L255, ze_L400, ze_L1024, ze_L2047, ze_L65535]
    · obtain ⟨h1, h2⟩ := zm_natA x
      have e1 := zm_C_wn0 h1.1 (c := 0) (by decide) h2 s
      have e2 := zm_C_wn0 h1.1 (c := 45) (by decide) h2 s
      by_cases c0 : lN 0 ≤ x
      · simp (disch := omega) only [zs_Converter_writePlain, zs_Converter_writePlain_J58, c5, c2, c0, e1, ↓zd_bnd, ↓zy_bm, if_true, if_false, ite_true, ite_false, ↓reduceIte, Bool.false_eq_true, Bool.true_eq_false, eq_self, true_and, and_true, false_and, and_false, reduceCtorEq, decide_true, decide_false, not_true_eq_false, not_false_eq_true, ze_ltT, ze_ltF, ze_leT, ze_leF, ze_eqT, ze_eqF, ze_mlt, ze_ltm, ze_mle, ze_lem, ze_meq, ze_eqm, ze_mm, ze_mltm, ze_inT, ze_inF, ze_inM, ze_cl, ze_fin, ze_decT, ze_decF, Nat.reduceSub, Nat.reduceMul, nI_add, Nat.add_sub_cancel, Nat.add_assoc, Nat.reduceAdd, ze_r8, ze_r24, ze_r40, ze_r400, ze_l8, ze_l16, ze_l24, ze_l40, ze_sub, ze_am1, ze_es, ze_en, ze_i64, ze_m64, ze_64i, ze_64m, ze_LltT, ze_LltF, ze_LleT, ze_LleF, ze_LeqT, ze_LeqF, ze_Lmlt, ze_Lltm, ze_Lmle, ze_Llem, ze_Lmeq, ze_Leqm, ze_Lmm, lN_add, ze_ch, ze_chd, ze_bt, ze_bf, ze_n0, ze_n1, ze_n2, ze_n3, ze_n4, ze_n5, ze_n6, ze_n7, ze_n8, ze_n9, ze_n10, ze_n11, ze_n12, ze_n13, ze_n14, ze_n15, ze_n16, ze_n17, ze_n18, ze_n19, ze_n20, ze_n21, ze_n22, ze_n23, ze_n24, ze_n25, ze_n26, ze_n27, ze_n28, ze_n29, ze_n30, ze_n31, ze_n32, ze_n33, ze_n34, ze_n35, ze_n36, ze_n37, ze_n38, ze_n39, ze_n40, ze_n48, ze_n63, ze_n64, ze_n65, ze_n80, ze_n100, ze_n128, ze_n200, ze_n255, ze_n300, ze_n320, ze_n384, ze_n400, ze_n512, ze_n1023, ze_n1600, ze_n6400, ze_n9600, ze_n32768, ze_n65535, ze_n65536, ze_n802, ze_n8191, ze_L0, ze_L1, ze_L2, ze_L3, ze_L4, ze_L5, ze_L6, ze_L7, ze_L8, ze_L9, ze_L10, ze_L15, ze_L16, ze_L24, ze_L40, ze_L48, ze_L63, ze_L64, ze_L127, ze_L255, ze_L400, ze_L1024, ze_L2047, ze_L65535]
      · simp (disch := omega) only [zs_Converter_writePlain, zs_Converter_writePlain_J58, c5, c2, c0, ze_n45, e2, ↓zd_bnd, ↓zy_bm, if_true, if_false, ite_true, ite_false, ↓reduceIte, Bool.false_eq_true, Bool.true_eq_false, eq_self, true_and, and_true, false_and, and_false, reduceCtorEq, decide_true, decide_false, not_true_eq_false, not_false_eq_true, ze_ltT, ze_ltF, ze_leT, ze_leF, ze_eqT, ze_eqF, ze_mlt, ze_ltm, ze_mle, ze_lem, ze_meq, ze_eqm, ze_mm, ze_mltm, ze_inT, ze_inF, ze_inM, ze_cl, ze_fin, ze_decT, ze_decF, Nat.reduceSub, Nat.reduceMul, nI_add, Nat.add_sub_cancel, Nat.add_assoc, Nat.reduceAdd, ze_r8, ze_r24, ze_r40, ze_r400, ze_l8, ze_l16, ze_l24, ze_l40, ze_sub, ze_am1, ze_es, ze_en, ze_i64, ze_m64, ze_64i, ze_64m, ze_LltT, ze_LltF, ze_LleT, ze_LleF, ze_LeqT, ze_LeqF, ze_Lmlt, ze_Lltm, ze_Lmle, ze_Llem, ze_Lmeq, ze_Leqm, ze_Lmm, lN_add, ze_ch, ze_chd, ze_bt, ze_bf, ze_n0, ze_n1, ze_n2, ze_n3, ze_n4, ze_n5, ze_n6, ze_n7, ze_n8, ze_n9, ze_n10, ze_n11, ze_n12, ze_n13, ze_n14, ze_n15, ze_n16, ze_n17, ze_n18, ze_n19, ze_n20, ze_n21, ze_n22, ze_n23, ze_n24, ze_n25, ze_n26, ze_n27, ze_n28, ze_n29, ze_n30, ze_n31, ze_n32, ze_n33, ze_n34, ze_n35, ze_n36, ze_n37, ze_n38, ze_n39, ze_n40, ze_n48, ze_n63, ze_n64, ze_n65, ze_n80, ze_n100, ze_n128, ze_n200, ze_n255, ze_n300, ze_n320, ze_n384, ze_n400, ze_n512, ze_n1023, ze_n1600, ze_n6400, ze_n9600, ze_n32768, ze_n65535, ze_n65536, ze_n802, ze_n8191, ze_L0, ze_L1, ze_L2, ze_L3, ze_L4, ze_L5, ze_L6, ze_L7, ze_L8, ze_L9, ze_L10, ze_L15, ze_L16, ze_L24, ze_L40, ze_L48, ze_L63, ze_L64, ze_L127, ze_L255, ze_L400, ze_L1024, ze_L2047, ze_L65535]

/-- the text of a value of type a: its length and characters -/
def zm_vt (A : zd_A) (a : Nat) (v : Int64) : Nat × (Nat → Nat) := if zd_srt A a = 3 then (zm_tl 110 (zd_nm A a (zn_u v)), zm_tx 110 (zd_nm A a (zn_u v))) else zm_pt (zp_kd a) (zm_raw A a v)
theorem zm_cst3 {A : zd_A} (K : zd_ok A) {a : Nat} (h3 : zd_srt A a = 3) (ha : a < zd_T A) : 15 ≤ a := by
  by_cases c : a < 15
  · have := zd_ok_low K c; omega
  · omega
theorem zm_con {A : zd_A} (K : zd_ok A) {a : Nat} (ha : a < zd_T A) (h3 : zd_srt A a = 3) {v : Int64} (hv : zd_val A a v) (hn : ¬ zm_nul a v) : ∃ k, k < zd_sz A a ∧ v = lN k := by
  have := zm_cst3 K h3 ha
  rcases (zn_valO K (by omega) v).mp hv with e | ⟨_, e⟩ | ⟨e, _⟩
  · exact absurd ⟨by omega, e⟩ hn
  · exact e
  · exact absurd h3 e
theorem zm_vt_ok {A : zd_A} (K : zd_ok A) {a : Nat} (ha : a < zd_T A) (hc : a < 14 ∨ zd_srt A a = 3) {v : Int64} (hv : zd_val A a v) (hn : ¬ zm_nul a v) : (zm_vt A a v).1 ≤ 24 ∧ ∀ i, i < (zm_vt A a v).1 → (zm_vt A a v).2 i < 65536 := by
  unfold zm_vt
  by_cases h3 : zd_srt A a = 3
  · rw [if_pos h3]
    obtain ⟨k, h1, rfl⟩ := zm_con K ha h3 hv hn
    have hT := zd_ok_T K
    have hz := zd_ok_sz K a (by omega)
    rw [zn_uN (by omega)]
    have := zd_ok_nm K a k ha h1
    exact ⟨zm_tl_le (by omega), fun i _ => zm_tx_lt (by decide)⟩
  · rw [if_neg h3]
    exact zm_pt_ok (zm_raw_ok K (by omega) hv hn)
theorem zm_C_text {A : zd_A} {h0 : zx_H} (H : zd_C A h0) (K : zd_ok A) {s : zx_H} {n : Nat} (X : zm_C A h0 s n) (f0 : s.1 23 0 2 = nI 0) {a : Nat} (ha : a < zd_T A) (hc : a < 14 ∨ zd_srt A a = 3) {v : Int64} (hv : zd_val A a v) (hn : ¬ zm_nul a v) : zm_CX A h0 n s (zm_tX n (zm_vt A a v).1 (zm_vt A a v).2) (zs_Converter_byTable (nI a) (nI 14) v s) := by
  have hT := zd_ok_T K
  have en := zm_C_nulF hn (by omega) s
  unfold zm_tX
  by_cases c : n = 400
  · rw [if_pos c]
    subst c
    have X1 := zm_Cf X
    refine ⟨-lN 1, zx_sI s 23 0 2 (nI 1), ?_, X1.1, by simp (disch := omega) only [ze_gIs, ze_gIn, ze_gJs, ze_gJn, zd_gI2, zd_gJ1, ze_sII]⟩
    have ee := zm_C_isEnum H K X1 ha
    by_cases h3 : zd_srt A a = 3
    · obtain ⟨k, h1, rfl⟩ := zm_con K ha h3 hv hn
      have hz := zd_ok_sz K a (by omega)
      have hm := zd_ok_nm K a k ha h1
      have ea := zm_C_nameAt H K X1 ha h1
      have ew := zm_C_wn0 (u := zd_nm A a k) (by omega) (c := 110) (by decide) (x := lN (zd_nm A a k)) (by
        rw [if_pos (show (0 : Int64) ≤ lN (zd_nm A a k) from (lN_le (a := 0) (by omega) (by omega)).mpr (by omega))]) (zx_sI s 23 0 2 (nI 1))
      simp (disch := omega) only [zs_Converter_byTable, zs_Converter_created_J22, zs_Converter_created, en, zm_C_create0 X.2.1, f0, ee, h3, ea, ze_n110, ew, ↓zd_bnd, ↓zy_bm, if_true, if_false, ite_true, ite_false, ↓reduceIte, Bool.false_eq_true, Bool.true_eq_false, eq_self, true_and, and_true, false_and, and_false, reduceCtorEq, decide_true, decide_false, not_true_eq_false, not_false_eq_true, ze_ltT, ze_ltF, ze_leT, ze_leF, ze_eqT, ze_eqF, ze_mlt, ze_ltm, ze_mle, ze_lem, ze_meq, ze_eqm, ze_mm, ze_mltm, ze_inT, ze_inF, ze_inM, ze_cl, ze_fin, ze_decT, ze_decF, Nat.reduceSub, Nat.reduceMul, nI_add, Nat.add_sub_cancel, Nat.add_assoc, Nat.reduceAdd, ze_r8, ze_r24, ze_r40, ze_r400, ze_l8, ze_l16, ze_l24, ze_l40, ze_sub, ze_am1, ze_es, ze_en, ze_i64, ze_m64, ze_64i, ze_64m, ze_LltT, ze_LltF, ze_LleT, ze_LleF, ze_LeqT, ze_LeqF, ze_Lmlt, ze_Lltm, ze_Lmle, ze_Llem, ze_Lmeq, ze_Leqm, ze_Lmm, lN_add, ze_ch, ze_chd, ze_bt, ze_bf, ze_n0, ze_n1, ze_n2, ze_n3, ze_n4, ze_n5, ze_n6, ze_n7, ze_n8, ze_n9, ze_n10, ze_n11, ze_n12, ze_n13, ze_n14, ze_n15, ze_n16, ze_n17, ze_n18, ze_n19, ze_n20, ze_n21, ze_n22, ze_n23, ze_n24, ze_n25, ze_n26, ze_n27, ze_n28, ze_n29, ze_n30, ze_n31, ze_n32, ze_n33, ze_n34, ze_n35, ze_n36, ze_n37, ze_n38, ze_n39, ze_n40, ze_n48, ze_n63, ze_n64, ze_n65, ze_n80, ze_n100, ze_n128, ze_n200, ze_n255, ze_n300, ze_n320, ze_n384, ze_n400, ze_n512, ze_n1023, ze_n1600, ze_n6400, ze_n9600, ze_n32768, ze_n65535, ze_n65536, ze_n802, ze_n8191, ze_L0, ze_L1, ze_L2, ze_L3, ze_L4, ze_L5, ze_L6, ze_L7, ze_L8, ze_L9, ze_L10, ze_L15, ze_L16, ze_L24, ze_L40, ze_L48, ze_L63, ze_L64, ze_L127, ze_L255, ze_L400, ze_L1024, ze_L2047, ze_L65535]
    · have h14 : a < 14 := by omega
      have eu := zm_C_unboxed H K X1 h14 hv hn
      have hka : zp_kd a < 7 := by unfold zp_kd; split <;> omega
      simp (disch := omega) only [zs_Converter_byTable, zs_Converter_created_J22, zs_Converter_created, en, zm_C_create0 X.2.1, f0, ee, h3, zm_kindC a h14, eu, zm_C_writePlain0 hka, ↓zd_bnd, ↓zy_bm, if_true, if_false, ite_true, ite_false, ↓reduceIte, Bool.false_eq_true, Bool.true_eq_false, eq_self, true_and, and_true, false_and, and_false, reduceCtorEq, decide_true, decide_false, not_true_eq_false, not_false_eq_true, ze_ltT, ze_ltF, ze_leT, ze_leF, ze_eqT, ze_eqF, ze_mlt, ze_ltm, ze_mle, ze_lem, ze_meq, ze_eqm, ze_mm, ze_mltm, ze_inT, ze_inF, ze_inM, ze_cl, ze_fin, ze_decT, ze_decF, Nat.reduceSub, Nat.reduceMul, nI_add, Nat.add_sub_cancel, Nat.add_assoc, Nat.reduceAdd, ze_r8, ze_r24, ze_r40, ze_r400, ze_l8, ze_l16, ze_l24, ze_l40, ze_sub, ze_am1, ze_es, ze_en, ze_i64, ze_m64, ze_64i, ze_64m, ze_LltT, ze_LltF, ze_LleT, ze_LleF, ze_LeqT, ze_LeqF, ze_Lmlt, ze_Lltm, ze_Lmle, ze_Llem, ze_Lmeq, ze_Leqm, ze_Lmm, lN_add, ze_ch, ze_chd, ze_bt, ze_bf, ze_n0, ze_n1, ze_n2, ze_n3, ze_n4, ze_n5, ze_n6, ze_n7, ze_n8, ze_n9, ze_n10, ze_n11, ze_n12, ze_n13, ze_n14, ze_n15, ze_n16, ze_n17, ze_n18, ze_n19, ze_n20, ze_n21, ze_n22, ze_n23, ze_n24, ze_n25, ze_n26, ze_n27, ze_n28, ze_n29, ze_n30, ze_n31, ze_n32, ze_n33, ze_n34, ze_n35, ze_n36, ze_n37, ze_n38, ze_n39, ze_n40, ze_n48, ze_n63, ze_n64, ze_n65, ze_n80, ze_n100, ze_n128, ze_n200, ze_n255, ze_n300, ze_n320, ze_n384, ze_n400, ze_n512, ze_n1023, ze_n1600, ze_n6400, ze_n9600, ze_n32768, ze_n65535, ze_n65536, ze_n802, ze_n8191, ze_L0, ze_L1, ze_L2, ze_L3, ze_L4, ze_L5, ze_L6, ze_L7, ze_L8, ze_L9, ze_L10, ze_L15, ze_L16, ze_L24, ze_L40, ze_L48, ze_L63, ze_L64, ze_L127, ze_L255, ze_L400, ze_L1024, ze_L2047, ze_L65535]
  · have hn4 : n < 400 := by have := X.2.2.2; omega
    rw [if_neg c]
    have hcr : ∃ s1, zs_Store_create (nI 14) s = some (nI n, s1) ∧ ∀ f, zg_I n s 14 f 0 s1 := by
      obtain ⟨s1, e1, e2⟩ := zm_C_create X.2.1 hn4 14 (fun _ => lN 0)
      exact ⟨s1, e1, fun f => zg_I_congr e2 (fun i hi => absurd hi (Nat.not_lt_zero i))⟩
    obtain ⟨s1, e1, e2⟩ := hcr
    have q := e2 (fun _ => lN 0)
    have g1 : s1.1 23 0 2 = nI 0 := by rw [q.1.1 23 (by decide) (by decide) (by decide)]; exact f0
    have i1 := zm_id g1
    have Z : zd_fC (zd_O A) h0 s1 := zd_fC_trans X.1 (zd_fC_mono (zd_gC_f q.1) X.2.2.1)
    have X1 : zm_C A h0 s1 (n + 1) := ⟨Z, q.2.1, by have := X.2.2.1; omega, hn4⟩
    have ee := zm_C_isEnum H K X1 ha
    unfold zm_vt
    by_cases h3 : zd_srt A a = 3
    · obtain ⟨k, h1, rfl⟩ := zm_con K ha h3 hv hn
      have hz := zd_ok_sz K a (by omega)
      have hm := zd_ok_nm K a k ha h1
      have ea := zm_C_nameAt H K X1 ha h1
      rw [if_pos h3, zn_uN (by omega)]
      obtain ⟨s2, w1, w2⟩ := zm_C_writeNumber hn4 (u := zd_nm A a k) (by omega) (c := 110) (by decide) (x := lN (zd_nm A a k)) (by
        rw [if_pos (show (0 : Int64) ≤ lN (zd_nm A a k) from (lN_le (a := 0) (by omega) (by omega)).mpr (by omega))]) e2
      refine ⟨rfl, hn4, s2, ?_, w2⟩
      simp (disch := omega) only [zs_Converter_byTable, zs_Converter_created_J22, zs_Converter_created, en, e1, g1, i1, ee, h3, ea, ze_n110, w1, ↓zd_bnd, ↓zy_bm, if_true, if_false, ite_true, ite_false, ↓reduceIte, Bool.false_eq_true, Bool.true_eq_false, eq_self, true_and, and_true, false_and, and_false, reduceCtorEq, decide_true, decide_false, not_true_eq_false, not_false_eq_true, ze_ltT, ze_ltF, ze_leT, ze_leF, ze_eqT, ze_eqF, ze_mlt, ze_ltm, ze_mle, ze_lem, ze_meq, ze_eqm, ze_mm, ze_mltm, ze_inT, ze_inF, ze_inM, ze_cl, ze_fin, ze_decT, ze_decF, Nat.reduceSub, Nat.reduceMul, nI_add, Nat.add_sub_cancel, Nat.add_assoc, Nat.reduceAdd, ze_r8, ze_r24, ze_r40, ze_r400, ze_l8, ze_l16, ze_l24, ze_l40, ze_sub, ze_am1, ze_es, ze_en, ze_i64, ze_m64, ze_64i, ze_64m, ze_LltT, ze_LltF, ze_LleT, ze_LleF, ze_LeqT, ze_LeqF, ze_Lmlt, ze_Lltm, ze_Lmle, ze_Llem, ze_Lmeq, ze_Leqm, ze_Lmm, lN_add, ze_ch, ze_chd, ze_bt, ze_bf, ze_n0, ze_n1, ze_n2, ze_n3, ze_n4, ze_n5, ze_n6, ze_n7, ze_n8, ze_n9, ze_n10, ze_n11, ze_n12, ze_n13, ze_n14, ze_n15, ze_n16, ze_n17, ze_n18, ze_n19, ze_n20, ze_n21, ze_n22, ze_n23, ze_n24, ze_n25, ze_n26, ze_n27, ze_n28, ze_n29, ze_n30, ze_n31, ze_n32, ze_n33, ze_n34, ze_n35, ze_n36, ze_n37, ze_n38, ze_n39, ze_n40, ze_n48, ze_n63, ze_n64, ze_n65, ze_n80, ze_n100, ze_n128, ze_n200, ze_n255, ze_n300, ze_n320, ze_n384, ze_n400, ze_n512, ze_n1023, ze_n1600, ze_n6400, ze_n9600, ze_n32768, ze_n65535, ze_n65536, ze_n802, ze_n8191, ze_L0, ze_L1, ze_L2, ze_L3, ze_L4, ze_L5, ze_L6, ze_L7, ze_L8, ze_L9, ze_L10, ze_L15, ze_L16, ze_L24, ze_L40, ze_L48, ze_L63, ze_L64, ze_L127, ze_L255, ze_L400, ze_L1024, ze_L2047, ze_L65535]
    · have h14 : a < 14 := by omega
      rw [if_neg h3]
      have eu := zm_C_unboxed H K X1 h14 hv hn
      have hka : zp_kd a < 7 := by unfold zp_kd; split <;> omega
      obtain ⟨s2, w1, w2⟩ := zm_C_writePlain hn4 hka (zm_raw_ok K h14 hv hn) e2
      refine ⟨rfl, hn4, s2, ?_, w2⟩
      simp (disch := omega) only [zs_Converter_byTable, zs_Converter_created_J22, zs_Converter_created, en, e1, g1, i1, ee, h3, zm_kindC a h14, eu, w1, ↓zd_bnd, ↓zy_bm, if_true, if_false, ite_true, ite_false, ↓reduceIte, Bool.false_eq_true, Bool.true_eq_false, eq_self, true_and, and_true, false_and, and_false, reduceCtorEq, decide_true, decide_false, not_true_eq_false, not_false_eq_true, ze_ltT, ze_ltF, ze_leT, ze_leF, ze_eqT, ze_eqF, ze_mlt, ze_ltm, ze_mle, ze_lem, ze_meq, ze_eqm, ze_mm, ze_mltm, ze_inT, ze_inF, ze_inM, ze_cl, ze_fin, ze_decT, ze_decF, Nat.reduceSub, Nat.reduceMul, nI_add, Nat.add_sub_cancel, Nat.add_assoc, Nat.reduceAdd, ze_r8, ze_r24, ze_r40, ze_r400, ze_l8, ze_l16, ze_l24, ze_l40, ze_sub, ze_am1, ze_es, ze_en, ze_i64, ze_m64, ze_64i, ze_64m, ze_LltT, ze_LltF, ze_LleT, ze_LleF, ze_LeqT, ze_LeqF, ze_Lmlt, ze_Lltm, ze_Lmle, ze_Llem, ze_Lmeq, ze_Leqm, ze_Lmm, lN_add, ze_ch, ze_chd, ze_bt, ze_bf, ze_n0, ze_n1, ze_n2, ze_n3, ze_n4, ze_n5, ze_n6, ze_n7, ze_n8, ze_n9, ze_n10, ze_n11, ze_n12, ze_n13, ze_n14, ze_n15, ze_n16, ze_n17, ze_n18, ze_n19, ze_n20, ze_n21, ze_n22, ze_n23, ze_n24, ze_n25, ze_n26, ze_n27, ze_n28, ze_n29, ze_n30, ze_n31, ze_n32, ze_n33, ze_n34, ze_n35, ze_n36, ze_n37, ze_n38, ze_n39, ze_n40, ze_n48, ze_n63, ze_n64, ze_n65, ze_n80, ze_n100, ze_n128, ze_n200, ze_n255, ze_n300, ze_n320, ze_n384, ze_n400, ze_n512, ze_n1023, ze_n1600, ze_n6400, ze_n9600, ze_n32768, ze_n65535, ze_n65536, ze_n802, ze_n8191, ze_L0, ze_L1, ze_L2, ze_L3, ze_L4, ze_L5, ze_L6, ze_L7, ze_L8, ze_L9, ze_L10, ze_L15, ze_L16, ze_L24, ze_L40, ze_L48, ze_L63, ze_L64, ze_L127, ze_L255, ze_L400, ze_L1024, ze_L2047, ze_L65535]
theorem zm_R_word {n : Nat} {h s : zx_H} (a : ∀ f, zm_B n h f 0 s) : (∃ s1, zs_Ref_writeFour (nI 116) (nI 114) (nI 117) (nI 101) s = some s1 ∧ zm_B n h (zm_bw true) 4 s1) ∧ ∃ s1 s2, zs_Ref_writeFour (nI 102) (nI 97) (nI 108) (nI 115) s = some s1 ∧ zs_Ref_write (nI 101) s1 = some s2 ∧ zm_B n h (zm_bw false) 5 s2 := by
  constructor
  · obtain ⟨s1, e1, a1⟩ := zm_write (by omega) (a (zm_bw true))
    obtain ⟨s2, e2, a2⟩ := zm_write (by omega) a1
    obtain ⟨s3, e3, a3⟩ := zm_write (by omega) a2
    obtain ⟨s4, e4, a4⟩ := zm_write (by omega) a3
    have e1 : zs_Ref_write (nI 116) s = some s1 := e1
    have e2 : zs_Ref_write (nI 114) s1 = some s2 := e2
    have e3 : zs_Ref_write (nI 117) s2 = some s3 := e3
    have e4 : zs_Ref_write (nI 101) s3 = some s4 := e4
    exact ⟨s4, by simp (disch := omega) only [zs_Ref_writeFour, e1, e2, e3, e4, ↓zd_bnd, ↓zy_bm, if_true, if_false, ite_true, ite_false, ↓reduceIte, Bool.false_eq_true, Bool.true_eq_false, eq_self, true_and, and_true, false_and, and_false, reduceCtorEq, decide_true, decide_false, not_true_eq_false, not_false_eq_true, ze_ltT, ze_ltF, ze_leT, ze_leF, ze_eqT, ze_eqF, ze_mlt, ze_ltm, ze_mle, ze_lem, ze_meq, ze_eqm, ze_mm, ze_mltm, ze_inT, ze_inF, ze_inM, ze_cl, ze_fin, ze_decT, ze_decF, Nat.reduceSub, Nat.reduceMul, nI_add, Nat.add_sub_cancel, Nat.add_assoc, Nat.reduceAdd, ze_r8, ze_r24, ze_r40, ze_r400, ze_l8, ze_l16, ze_l24, ze_l40, ze_sub, ze_am1, ze_es, ze_en, ze_i64, ze_m64, ze_64i, ze_64m, ze_LltT, ze_LltF, ze_LleT, ze_LleF, ze_LeqT, ze_LeqF, ze_Lmlt, ze_Lltm, ze_Lmle, ze_Llem, ze_Lmeq, ze_Leqm, ze_Lmm, lN_add, ze_ch, ze_chd, ze_bt, ze_bf, ze_n0, ze_n1, ze_n2, ze_n3, ze_n4, ze_n5, ze_n6, ze_n7, ze_n8, ze_n9, ze_n10, ze_n11, ze_n12, ze_n13, ze_n14, ze_n15, ze_n16, ze_n17, ze_n18, ze_n19, ze_n20, ze_n21, ze_n22, ze_n23, ze_n24, ze_n25, ze_n26, ze_n27, ze_n28, ze_n29, ze_n30, ze_n31, ze_n32, ze_n33, ze_n34, ze_n35, ze_n36, ze_n37, ze_n38, ze_n39, ze_n40, ze_n48, ze_n63, ze_n64, ze_n65, ze_n80, ze_n100, ze_n128, ze_n200, ze_n255, ze_n300, ze_n320, ze_n384, ze_n400, ze_n512, ze_n1023, ze_n1600, ze_n6400, ze_n9600, ze_n32768, ze_n65535, ze_n65536, ze_n802, ze_n8191, ze_L0, ze_L1, ze_L2, ze_L3, ze_L4, ze_L5, ze_L6, ze_L7, ze_L8, ze_L9, ze_L10, ze_L15, ze_L16, ze_L24, ze_L40, ze_L48, ze_L63, ze_L64, ze_L127, ze_L255, ze_L400, ze_L1024, ze_L2047, ze_L65535], a4⟩
  · obtain ⟨s1, e1, a1⟩ := zm_write (by omega) (a (zm_bw false))
    obtain ⟨s2, e2, a2⟩ := zm_write (by omega) a1
    obtain ⟨s3, e3, a3⟩ := zm_write (by omega) a2
    obtain ⟨s4, e4, a4⟩ := zm_write (by omega) a3
    obtain ⟨s5, e5, a5⟩ := zm_write (by omega) a4
    have e1 : zs_Ref_write (nI 102) s = some s1 := e1
    have e2 : zs_Ref_write (nI 97) s1 = some s2 := e2
    have e3 : zs_Ref_write (nI 108) s2 = some s3 := e3
    have e4 : zs_Ref_write (nI 115) s3 = some s4 := e4
    have e5 : zs_Ref_write (nI 101) s4 = some s5 := e5
    exact ⟨s4, s5, by simp (disch := omega) only [zs_Ref_writeFour, e1, e2, e3, e4, ↓zd_bnd, ↓zy_bm, if_true, if_false, ite_true, ite_false, ↓reduceIte, Bool.false_eq_true, Bool.true_eq_false, eq_self, true_and, and_true, false_and, and_false, reduceCtorEq, decide_true, decide_false, not_true_eq_false, not_false_eq_true, ze_ltT, ze_ltF, ze_leT, ze_leF, ze_eqT, ze_eqF, ze_mlt, ze_ltm, ze_mle, ze_lem, ze_meq, ze_eqm, ze_mm, ze_mltm, ze_inT, ze_inF, ze_inM, ze_cl, ze_fin, ze_decT, ze_decF, Nat.reduceSub, Nat.reduceMul, nI_add, Nat.add_sub_cancel, Nat.add_assoc, Nat.reduceAdd, ze_r8, ze_r24, ze_r40, ze_r400, ze_l8, ze_l16, ze_l24, ze_l40, ze_sub, ze_am1, ze_es, ze_en, ze_i64, ze_m64, ze_64i, ze_64m, ze_LltT, ze_LltF, ze_LleT, ze_LleF, ze_LeqT, ze_LeqF, ze_Lmlt, ze_Lltm, ze_Lmle, ze_Llem, ze_Lmeq, ze_Leqm, ze_Lmm, lN_add, ze_ch, ze_chd, ze_bt, ze_bf, ze_n0, ze_n1, ze_n2, ze_n3, ze_n4, ze_n5, ze_n6, ze_n7, ze_n8, ze_n9, ze_n10, ze_n11, ze_n12, ze_n13, ze_n14, ze_n15, ze_n16, ze_n17, ze_n18, ze_n19, ze_n20, ze_n21, ze_n22, ze_n23, ze_n24, ze_n25, ze_n26, ze_n27, ze_n28, ze_n29, ze_n30, ze_n31, ze_n32, ze_n33, ze_n34, ze_n35, ze_n36, ze_n37, ze_n38, ze_n39, ze_n40, ze_n48, ze_n63, ze_n64, ze_n65, ze_n80, ze_n100, ze_n128, ze_n200, ze_n255, ze_n300, ze_n320, ze_n384, ze_n400, ze_n512, ze_n1023, ze_n1600, ze_n6400, ze_n9600, ze_n32768, ze_n65535, ze_n65536, ze_n802, ze_n8191, ze_L0, ze_L1, ze_L2, ze_L3, ze_L4, ze_L5, ze_L6, ze_L7, ze_L8, ze_L9, ze_L10, ze_L15, ze_L16, ze_L24, ze_L40, ze_L48, ze_L63, ze_L64, ze_L127, ze_L255, ze_L400, ze_L1024, ze_L2047, ze_L65535], e5, a5⟩
theorem zm_bind {α : Type} (r : Option (α × zx_H)) : (r.bind (fun q => some (q.1, q.2))) = r := by cases r <;> rfl
theorem zm_R_text {A : zd_A} {h0 : zx_H} (H : zd_R A h0) (K : zd_ok A) {s : zx_H} {n : Nat} (X : zm_R A h0 s n) (f0 : s.1 24 0 37 = nI 0) {a : Nat} (ha : a < zd_T A) (hc : a < 14 ∨ zd_srt A a = 3) {v : Int64} (hv : zd_val A a v) (hn : ¬ zm_nul a v) : zm_RX A h0 n s (zm_tX n (zm_vt A a v).1 (zm_vt A a v).2) (zs_Ref_converted (nI a) (nI 14) v s) := by
  have hT := zd_ok_T K
  have ok := zm_vt_ok K ha hc hv hn
  have c25 := (X.1.1 25 (by decide) (by decide)).1
  have c27 := (X.1.1 27 (by decide) (by decide)).1
  have base : ∀ f, zm_B n s f 0 (zx_sI s 24 0 38 (nI 0)) := fun f => ⟨zd_gR_I (zd_gR_refl _ s) _ (by omega), by simp (disch := omega) only [ze_gIs, ze_gIn, ze_gJs, ze_gJn, zd_gI2, zd_gJ1, ze_sII]; exact X.2.1, by simp (disch := omega) only [ze_gIs, ze_gIn, ze_gJs, ze_gJn, zd_gI2, zd_gJ1, ze_sII], fun i hi => absurd hi (Nat.not_lt_zero i)⟩
  have fin : ∀ r, ∀ s1, zm_B n s (zm_vt A a v).2 (zm_vt A a v).1 s1 → r = zs_Ref_newText s1 → zm_RX A h0 n s (zm_tX n (zm_vt A a v).1 (zm_vt A a v).2) r := by
    intro r s1 h1 h2
    rw [h2]
    exact zm_R_newText H K X h1 ok.1 ok.2
  by_cases h3 : zd_srt A a = 3
  · have h15 := zm_cst3 K h3 ha
    obtain ⟨k, h1, rfl⟩ := zm_con K ha h3 hv hn
    have hz := zd_ok_sz K a (by omega)
    have hm := zd_ok_nm K a k ha h1
    have ev : zm_vt A a (lN k) = (zm_tl 110 (zd_nm A a k), zm_tx 110 (zd_nm A a k)) := by unfold zm_vt; rw [if_pos h3, zn_uN (by omega)]
    obtain ⟨s1, e1, a1⟩ := zm_write (by omega) (base (zm_tx 110 (zd_nm A a k)))
    rw [zm_tx0 (by decide)] at e1
    obtain ⟨s2, e2, a2⟩ := zm_R_J12 (x := lN (zd_nm A a k)) (u := zd_nm A a k) ⟨by omega, Or.inl ⟨rfl, by omega⟩⟩ (c := 110) a1
    refine fin _ s2 (by rw [ev]; exact a2) ?_
    have d27 := (a1.1.1 27 (by decide) (by decide) (by decide) (by decide) (by decide)).trans c27
    have dn := zd_R_nm H a k ha h1
    simp (disch := omega) only [zs_Ref_converted, zs_Ref_converted_J32, zs_Ref_toText, zs_Ref_toText_J20, zm_amtF (t := a) (by omega) (by omega), c25, zd_R_srt H, h3, d27, dn, ze_n110, e1, zs_Ref_writeNumber, e2, zm_bind, ↓zd_bnd, ↓zy_bm, if_true, if_false, ite_true, ite_false, ↓reduceIte, Bool.false_eq_true, Bool.true_eq_false, eq_self, true_and, and_true, false_and, and_false, reduceCtorEq, decide_true, decide_false, not_true_eq_false, not_false_eq_true, ze_ltT, ze_ltF, ze_leT, ze_leF, ze_eqT, ze_eqF, ze_mlt, ze_ltm, ze_mle, ze_lem, ze_meq, ze_eqm, ze_mm, ze_mltm, ze_inT, ze_inF, ze_inM, ze_cl, ze_fin, ze_decT, ze_decF, Nat.reduceSub, Nat.reduceMul, nI_add, Nat.add_sub_cancel, Nat.add_assoc, Nat.reduceAdd, ze_r8, ze_r24, ze_r40, ze_r400, ze_l8, ze_l16, ze_l24, ze_l40, ze_sub, ze_am1, ze_es, ze_en, ze_i64, ze_m64, ze_64i, ze_64m, ze_LltT, ze_LltF, ze_LleT, ze_LleF, ze_LeqT, ze_LeqF, ze_Lmlt, ze_Lltm, ze_Lmle, ze_Llem, ze_Lmeq, ze_Leqm, ze_Lmm, lN_add, ze_ch, ze_chd, ze_bt, ze_bf, ze_n0, ze_n1, ze_n2, ze_n3, ze_n4, ze_n5, ze_n6, ze_n7, ze_n8, ze_n9, ze_n10, ze_n11, ze_n12, ze_n13, ze_n14, ze_n15, ze_n16, ze_n17, ze_n18, ze_n19, ze_n20, ze_n21, ze_n22, ze_n23, ze_n24, ze_n25, ze_n26, ze_n27, ze_n28, ze_n29, ze_n30, ze_n31, ze_n32, ze_n33, ze_n34, ze_n35, ze_n36, ze_n37, ze_n38, ze_n39, ze_n40, ze_n48, ze_n63, ze_n64, ze_n65, ze_n80, ze_n100, ze_n128, ze_n200, ze_n255, ze_n300, ze_n320, ze_n384, ze_n400, ze_n512, ze_n1023, ze_n1600, ze_n6400, ze_n9600, ze_n32768, ze_n65535, ze_n65536, ze_n802, ze_n8191, ze_L0, ze_L1, ze_L2, ze_L3, ze_L4, ze_L5, ze_L6, ze_L7, ze_L8, ze_L9, ze_L10, ze_L15, ze_L16, ze_L24, ze_L40, ze_L48, ze_L63, ze_L64, ze_L127, ze_L255, ze_L400, ze_L1024, ze_L2047, ze_L65535, ze_gIs, ze_gIn, ze_gJs, ze_gJn, zd_gI2, zd_gJ1, ze_sII]
    cases zs_Ref_newText s2 <;> rfl
  · have h14 : a < 14 := by omega
    have e14 : ∀ k, zs_Ref_isAmount (nI 14) k = some false := fun k => zm_amtF (by omega) (by omega) k
    have ep := zm_R_plain H K X h14 hv hn
    have hka : zp_kd a < 7 := by unfold zp_kd; split <;> omega
    have h6 := zg_sortB K ha
    have ev : zm_vt A a v = zm_pt (zp_kd a) (zm_raw A a v) := by unfold zm_vt; rw [if_neg h3]
    have hr := zm_raw_ok K h14 hv hn
    generalize zm_raw A a v = x at *
    obtain ⟨⟨t1, t2, t3⟩, f1, f2, f3, f4, f5⟩ := zm_R_word base
    by_cases c5 : zp_kd a = 5
    · by_cases c1 : x = lN 1
      · refine fin _ t1 (by rw [ev]; unfold zm_pt; rw [if_pos c5, if_pos c1]; exact t3) ?_
        simp (disch := omega) only [zs_Ref_converted, zs_Ref_converted_J32, zs_Ref_toText, zs_Ref_toText_J20, zm_amt h14, e14, zm_kindR a h14, ep, c25, zd_R_srt H, h3, c5, c1, ze_n116, ze_n114, ze_n117, ze_n101, t2, zm_bind, ↓zd_bnd, ↓zy_bm, if_true, if_false, ite_true, ite_false, ↓reduceIte, Bool.false_eq_true, Bool.true_eq_false, eq_self, true_and, and_true, false_and, and_false, reduceCtorEq, decide_true, decide_false, not_true_eq_false, not_false_eq_true, ze_ltT, ze_ltF, ze_leT, ze_leF, ze_eqT, ze_eqF, ze_mlt, ze_ltm, ze_mle, ze_lem, ze_meq, ze_eqm, ze_mm, ze_mltm, ze_inT, ze_inF, ze_inM, ze_cl, ze_fin, ze_decT, ze_decF, Nat.reduceSub, Nat.reduceMul, nI_add, Nat.add_sub_cancel, Nat.add_assoc, Nat.reduceAdd, ze_r8, ze_r24, ze_r40, ze_r400, ze_l8, ze_l16, ze_l24, ze_l40, ze_sub, ze_am1, ze_es, ze_en, ze_i64, ze_m64, ze_64i, ze_64m, ze_LltT, ze_LltF, ze_LleT, ze_LleF, ze_LeqT, ze_LeqF, ze_Lmlt, ze_Lltm, ze_Lmle, ze_Llem, ze_Lmeq, ze_Leqm, ze_Lmm, lN_add, ze_ch, ze_chd, ze_bt, ze_bf, ze_n0, ze_n1, ze_n2, ze_n3, ze_n4, ze_n5, ze_n6, ze_n7, ze_n8, ze_n9, ze_n10, ze_n11, ze_n12, ze_n13, ze_n14, ze_n15, ze_n16, ze_n17, ze_n18, ze_n19, ze_n20, ze_n21, ze_n22, ze_n23, ze_n24, ze_n25, ze_n26, ze_n27, ze_n28, ze_n29, ze_n30, ze_n31, ze_n32, ze_n33, ze_n34, ze_n35, ze_n36, ze_n37, ze_n38, ze_n39, ze_n40, ze_n48, ze_n63, ze_n64, ze_n65, ze_n80, ze_n100, ze_n128, ze_n200, ze_n255, ze_n300, ze_n320, ze_n384, ze_n400, ze_n512, ze_n1023, ze_n1600, ze_n6400, ze_n9600, ze_n32768, ze_n65535, ze_n65536, ze_n802, ze_n8191, ze_L0, ze_L1, ze_L2, ze_L3, ze_L4, ze_L5, ze_L6, ze_L7, ze_L8, ze_L9, ze_L10, ze_L15, ze_L16, ze_L24, ze_L40, ze_L48, ze_L63, ze_L64, ze_L127, ze_L255, ze_L400, ze_L1024, ze_L2047, ze_L65535, ze_gIs, ze_gIn, ze_gJs, ze_gJn, zd_gI2, zd_gJ1, ze_sII]
        cases zs_Ref_newText t1 <;> rfl
      · refine fin _ f2 (by rw [ev]; unfold zm_pt; rw [if_pos c5, if_neg c1]; exact f5) ?_
        have l1 : (102 : Int32) = nI 102 := rfl
        have l2 : (97 : Int32) = nI 97 := rfl
        have l3 : (108 : Int32) = nI 108 := rfl
        have l4 : (115 : Int32) = nI 115 := rfl
        simp (disch := omega) only [zs_Ref_converted, zs_Ref_converted_J32, zs_Ref_toText, zs_Ref_toText_J20, zs_Ref_toText_J100, zm_amt h14, e14, zm_kindR a h14, ep, c25, zd_R_srt H, h3, c5, c1, l1, l2, l3, l4, ze_n101, f3, f4, zm_bind, ↓zd_bnd, ↓zy_bm, if_true, if_false, ite_true, ite_false, ↓reduceIte, Bool.false_eq_true, Bool.true_eq_false, eq_self, true_and, and_true, false_and, and_false, reduceCtorEq, decide_true, decide_false, not_true_eq_false, not_false_eq_true, ze_ltT, ze_ltF, ze_leT, ze_leF, ze_eqT, ze_eqF, ze_mlt, ze_ltm, ze_mle, ze_lem, ze_meq, ze_eqm, ze_mm, ze_mltm, ze_inT, ze_inF, ze_inM, ze_cl, ze_fin, ze_decT, ze_decF, Nat.reduceSub, Nat.reduceMul, nI_add, Nat.add_sub_cancel, Nat.add_assoc, Nat.reduceAdd, ze_r8, ze_r24, ze_r40, ze_r400, ze_l8, ze_l16, ze_l24, ze_l40, ze_sub, ze_am1, ze_es, ze_en, ze_i64, ze_m64, ze_64i, ze_64m, ze_LltT, ze_LltF, ze_LleT, ze_LleF, ze_LeqT, ze_LeqF, ze_Lmlt, ze_Lltm, ze_Lmle, ze_Llem, ze_Lmeq, ze_Leqm, ze_Lmm, lN_add, ze_ch, ze_chd, ze_bt, ze_bf, ze_n0, ze_n1, ze_n2, ze_n3, ze_n4, ze_n5, ze_n6, ze_n7, ze_n8, ze_n9, ze_n10, ze_n11, ze_n12, ze_n13, ze_n14, ze_n15, ze_n16, ze_n17, ze_n18, ze_n19, ze_n20, ze_n21, ze_n22, ze_n23, ze_n24, ze_n25, ze_n26, ze_n27, ze_n28, ze_n29, ze_n30, ze_n31, ze_n32, ze_n33, ze_n34, ze_n35, ze_n36, ze_n37, ze_n38, ze_n39, ze_n40, ze_n48, ze_n63, ze_n64, ze_n65, ze_n80, ze_n100, ze_n128, ze_n200, ze_n255, ze_n300, ze_n320, ze_n384, ze_n400, ze_n512, ze_n1023, ze_n1600, ze_n6400, ze_n9600, ze_n32768, ze_n65535, ze_n65536, ze_n802, ze_n8191, ze_L0, ze_L1, ze_L2, ze_L3, ze_L4, ze_L5, ze_L6, ze_L7, ze_L8, ze_L9, ze_L10, ze_L15, ze_L16, ze_L24, ze_L40, ze_L48, ze_L63, ze_L64, ze_L127, ze_L255, ze_L400, ze_L1024, ze_L2047, ze_L65535, ze_gIs, ze_gIn, ze_gJs, ze_gJn, zd_gI2, zd_gJ1, ze_sII]
        cases zs_Ref_newText f2 <;> rfl
    · by_cases c2 : zp_kd a = 2
      · rw [c2] at hr
        have hr : lN 0 ≤ x ∧ x ≤ lN 65535 := hr
        have hu : zn_u x < 65536 := (zn_ulo x (p := 65536) (by decide)).mpr ⟨hr.1, by
          have := hr.2
          rw [Int64.le_iff_toInt_le] at this
          rw [Int64.lt_iff_toInt_lt]
          have e1 : (lN 65535).toInt = 65535 := by decide
          have e2 : (lN 65536).toInt = 65536 := by decide
          omega⟩
        have hxu : x.toInt32 = nI (zn_u x) := by
          rw [zn_u_eq x, lN_i, zn_uN (by omega)]
        obtain ⟨s1, e1, a1⟩ := zm_write (by omega) (base (fun _ => zn_u x))
        refine fin _ s1 (by rw [ev]; unfold zm_pt; rw [if_neg c5, if_pos c2]; exact a1) ?_
        simp (disch := omega) only [zs_Ref_converted, zs_Ref_converted_J32, zs_Ref_toText, zs_Ref_toText_J20, zm_amt h14, e14, zm_kindR a h14, ep, c25, zd_R_srt H, h3, c2, hxu, e1, zm_bind, ↓zd_bnd, ↓zy_bm, if_true, if_false, ite_true, ite_false, ↓reduceIte, Bool.false_eq_true, Bool.true_eq_false, eq_self, true_and, and_true, false_and, and_false, reduceCtorEq, decide_true, decide_false, not_true_eq_false, not_false_eq_true, ze_ltT, ze_ltF, ze_leT, ze_leF, ze_eqT, ze_eqF, ze_mlt, ze_ltm, ze_mle, ze_lem, ze_meq, ze_eqm, ze_mm, ze_mltm, ze_inT, ze_inF, ze_inM, ze_cl, ze_fin, ze_decT, ze_decF, Nat.reduceSub, Nat.reduceMul, nI_add, Nat.add_sub_cancel, Nat.add_assoc, Nat.reduceAdd, ze_r8, ze_r24, ze_r40, ze_r400, ze_l8, ze_l16, ze_l24, ze_l40, ze_sub, ze_am1, ze_es, ze_en, ze_i64, ze_m64, ze_64i, ze_64m, ze_LltT, ze_LltF, ze_LleT, ze_LleF, ze_LeqT, ze_LeqF, ze_Lmlt, ze_Lltm, ze_Lmle, ze_Llem, ze_Lmeq, ze_Leqm, ze_Lmm, lN_add, ze_ch, ze_chd, ze_bt, ze_bf, ze_n0, ze_n1, ze_n2, ze_n3, ze_n4, ze_n5, ze_n6, ze_n7, ze_n8, ze_n9, ze_n10, ze_n11, ze_n12, ze_n13, ze_n14, ze_n15, ze_n16, ze_n17, ze_n18, ze_n19, ze_n20, ze_n21, ze_n22, ze_n23, ze_n24, ze_n25, ze_n26, ze_n27, ze_n28, ze_n29, ze_n30, ze_n31, ze_n32, ze_n33, ze_n34, ze_n35, ze_n36, ze_n37, ze_n38, ze_n39, ze_n40, ze_n48, ze_n63, ze_n64, ze_n65, ze_n80, ze_n100, ze_n128, ze_n200, ze_n255, ze_n300, ze_n320, ze_n384, ze_n400, ze_n512, ze_n1023, ze_n1600, ze_n6400, ze_n9600, ze_n32768, ze_n65535, ze_n65536, ze_n802, ze_n8191, ze_L0, ze_L1, ze_L2, ze_L3, ze_L4, ze_L5, ze_L6, ze_L7, ze_L8, ze_L9, ze_L10, ze_L15, ze_L16, ze_L24, ze_L40, ze_L48, ze_L63, ze_L64, ze_L127, ze_L255, ze_L400, ze_L1024, ze_L2047, ze_L65535, ze_gIs, ze_gIn, ze_gJs, ze_gJn, zd_gI2, zd_gJ1, ze_sII]
        cases zs_Ref_newText s1 <;> rfl
      · obtain ⟨s1, e1, a1⟩ := zm_R_writeNumber (zm_natA x).1 base
        refine fin _ s1 (by rw [ev]; unfold zm_pt; rw [if_neg c5, if_neg c2]; exact a1) ?_
        simp (disch := omega) only [zs_Ref_converted, zs_Ref_converted_J32, zs_Ref_toText, zs_Ref_toText_J20, zs_Ref_toText_J100, zm_amt h14, e14, zm_kindR a h14, ep, c25, zd_R_srt H, h3, c5, c2, e1, zm_bind, ↓zd_bnd, ↓zy_bm, if_true, if_false, ite_true, ite_false, ↓reduceIte, Bool.false_eq_true, Bool.true_eq_false, eq_self, true_and, and_true, false_and, and_false, reduceCtorEq, decide_true, decide_false, not_true_eq_false, not_false_eq_true, ze_ltT, ze_ltF, ze_leT, ze_leF, ze_eqT, ze_eqF, ze_mlt, ze_ltm, ze_mle, ze_lem, ze_meq, ze_eqm, ze_mm, ze_mltm, ze_inT, ze_inF, ze_inM, ze_cl, ze_fin, ze_decT, ze_decF, Nat.reduceSub, Nat.reduceMul, nI_add, Nat.add_sub_cancel, Nat.add_assoc, Nat.reduceAdd, ze_r8, ze_r24, ze_r40, ze_r400, ze_l8, ze_l16, ze_l24, ze_l40, ze_sub, ze_am1, ze_es, ze_en, ze_i64, ze_m64, ze_64i, ze_64m, ze_LltT, ze_LltF, ze_LleT, ze_LleF, ze_LeqT, ze_LeqF, ze_Lmlt, ze_Lltm, ze_Lmle, ze_Llem, ze_Lmeq, ze_Leqm, ze_Lmm, lN_add, ze_ch, ze_chd, ze_bt, ze_bf, ze_n0, ze_n1, ze_n2, ze_n3, ze_n4, ze_n5, ze_n6, ze_n7, ze_n8, ze_n9, ze_n10, ze_n11, ze_n12, ze_n13, ze_n14, ze_n15, ze_n16, ze_n17, ze_n18, ze_n19, ze_n20, ze_n21, ze_n22, ze_n23, ze_n24, ze_n25, ze_n26, ze_n27, ze_n28, ze_n29, ze_n30, ze_n31, ze_n32, ze_n33, ze_n34, ze_n35, ze_n36, ze_n37, ze_n38, ze_n39, ze_n40, ze_n48, ze_n63, ze_n64, ze_n65, ze_n80, ze_n100, ze_n128, ze_n200, ze_n255, ze_n300, ze_n320, ze_n384, ze_n400, ze_n512, ze_n1023, ze_n1600, ze_n6400, ze_n9600, ze_n32768, ze_n65535, ze_n65536, ze_n802, ze_n8191, ze_L0, ze_L1, ze_L2, ze_L3, ze_L4, ze_L5, ze_L6, ze_L7, ze_L8, ze_L9, ze_L10, ze_L15, ze_L16, ze_L24, ze_L40, ze_L48, ze_L63, ze_L64, ze_L127, ze_L255, ze_L400, ze_L1024, ze_L2047, ze_L65535, ze_gIs, ze_gIn, ze_gJs, ze_gJn, zd_gI2, zd_gJ1, ze_sII]
        cases zs_Ref_newText s1 <;> rfl
theorem zm_tX_fit {A : zd_A} (K : zd_ok A) {n k : Nat} {f : Nat → Nat} (hk : k ≤ 24) (hf : ∀ i, i < k → f i < 65536) : zm_fit A n 14 (zm_tX n k f) := by
  have hs := zd_ok_s2 K
  unfold zm_tX
  by_cases c : n = 400
  · rw [if_pos c]; trivial
  · rw [if_neg c]
    exact ⟨rfl, by omega, by omega, fun z => by omega, fun _ => ⟨hk, fun i hi => ⟨f i, hf i hi, rfl⟩⟩, fun z => by omega, fun z => by omega⟩
