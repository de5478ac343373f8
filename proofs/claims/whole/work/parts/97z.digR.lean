/-! the reference writes a number -/
def zm_B (n : Nat) (h : zx_H) (f : Nat → Nat) (k : Nat) (s : zx_H) : Prop := zd_gR n h s ∧ s.1 24 0 23 = nI n ∧ s.1 24 0 38 = nI k ∧ ∀ i, i < k → s.1 51 0 i = nI (f i)
theorem zm_B_congr {n : Nat} {h : zx_H} {f g : Nat → Nat} {k : Nat} {s : zx_H} (a : zm_B n h f k s) (e : ∀ i, i < k → f i = g i) : zm_B n h g k s := ⟨a.1, a.2.1, a.2.2.1, fun i hi => by rw [← e i hi]; exact a.2.2.2 i hi⟩
theorem zm_write {n : Nat} {h : zx_H} {f : Nat → Nat} {k : Nat} {s : zx_H} (hk : k < 24) (a : zm_B n h f k s) : ∃ s1, zs_Ref_write (nI (f k)) s = some s1 ∧ zm_B n h f (k + 1) s1 := by
  obtain ⟨a1, a2, a3, a4⟩ := a
  refine ⟨zx_sI (zx_sI s 51 0 k (nI (f k))) 24 0 38 (nI (k + 1)), ?_, zd_gR_I (zd_gR_I a1 _ (by omega)) _ (by omega), ?_, ?_, fun i hi => ?_⟩
  · simp (disch := omega) only [zs_Ref_write, a3, ↓zd_bnd, ↓zy_bm, if_true, if_false, ite_true, ite_false, ↓reduceIte, Bool.false_eq_true, Bool.true_eq_false, eq_self, true_and, and_true, false_and, and_false, reduceCtorEq, decide_true, decide_false, not_true_eq_false, not_false_eq_true, ze_ltT, ze_ltF, ze_leT, ze_leF, ze_eqT, ze_eqF, ze_mlt, ze_ltm, ze_mle, ze_lem, ze_meq, ze_eqm, ze_mm, ze_mltm, ze_inT, ze_inF, ze_inM, ze_cl, ze_fin, ze_decT, ze_decF, Nat.reduceSub, Nat.reduceMul, nI_add, Nat.add_sub_cancel, Nat.add_assoc, Nat.reduceAdd, ze_r8, ze_r24, ze_r40, ze_r400, ze_l8, ze_l16, ze_l24, ze_l40, ze_sub, ze_am1, ze_es, ze_en, ze_i64, ze_m64, ze_64i, ze_64m, ze_LltT, ze_LltF, ze_LleT, ze_LleF, ze_LeqT, ze_LeqF, ze_Lmlt, ze_Lltm, ze_Lmle, ze_Llem, ze_Lmeq, ze_Leqm, ze_Lmm, lN_add, ze_ch, ze_chd, ze_bt, ze_bf, ze_n0, ze_n1, ze_n2, ze_n3, ze_n4, ze_n5, ze_n6, ze_n7, ze_n8, ze_n9, ze_n10, ze_n11, ze_n12, ze_n13, ze_n14, ze_n15, ze_n16, ze_n17, ze_n18, ze_n19, ze_n20, ze_n21, ze_n22, ze_n23, ze_n24, ze_n25, ze_n26, ze_n27, ze_n28, ze_n29, ze_n30, ze_n31, ze_n32, ze_n33, ze_n34, ze_n35, ze_n36, ze_n37, ze_n38, ze_n39, ze_n40, ze_n48, ze_n63, ze_n64, ze_n65, ze_n80, ze_n100, ze_n128, ze_n200, ze_n255, ze_n300, ze_n320, ze_n384, ze_n400, ze_n512, ze_n1023, ze_n1600, ze_n6400, ze_n9600, ze_n32768, ze_n65535, ze_n65536, ze_n802, ze_n8191, ze_L0, ze_L1, ze_L2, ze_L3, ze_L4, ze_L5, ze_L6, ze_L7, ze_L8, ze_L9, ze_L10, ze_L15, ze_L16, ze_L24, ze_L40, ze_L48, ze_L63, ze_L64, ze_L127, ze_L255, ze_L400, ze_L1024, ze_L2047, ze_L65535, ze_gIs, ze_gIn, ze_gJs, ze_gJn, zd_gI2, zd_gJ1, ze_sII]
  · simp (disch := omega) only [ze_gIs, ze_gIn, ze_gJs, ze_gJn, zd_gI2, zd_gJ1, ze_sII]; exact a2
  · simp (disch := omega) only [ze_gIs, ze_gIn, ze_gJs, ze_gJn, zd_gI2, zd_gJ1, ze_sII]
  · by_cases e : i = k
    · subst e; simp (disch := omega) only [ze_gIs, ze_gIn, ze_gJs, ze_gJn, zd_gI2, zd_gJ1, ze_sII]
    · simp (disch := omega) only [ze_gIs, ze_gIn, ze_gJs, ze_gJn, zd_gI2, zd_gJ1, ze_sII]; exact a4 i (by omega)
def zm_is (x : Int64) (u : Nat) : Prop := u ≤ 2 ^ 63 ∧ (x = lN u ∧ u < 2 ^ 63 ∨ x = -lN u ∧ 0 < u)
theorem zm_is9 {x : Int64} {u p : Nat} (h : zm_is x u) (hp : p < 2 ^ 63) : (lN 9 < x / lN p ∨ ¬ (-9 : Int64) ≤ x / lN p) ↔ 9 < u / p := by
  obtain ⟨h1, ⟨rfl, h2⟩ | ⟨rfl, h2⟩⟩ := h
  · have hle : u / p ≤ u := Nat.div_le_self _ _
    have e9 : (-9 : Int64).toInt = -9 := by decide
    rw [zm_ln_div h2 hp, Int64.lt_iff_toInt_lt, Int64.le_iff_toInt_le, zm_lnI (by omega), zm_lnI (by omega), e9]
    generalize u / p = q at *
    omega
  · have hle : u / p ≤ u := Nat.div_le_self _ _
    have e9 : (-9 : Int64).toInt = -9 := by decide
    rw [zm_ng_div h1 hp, Int64.lt_iff_toInt_lt, Int64.le_iff_toInt_le, zm_ngI (by omega), zm_lnI (by omega), e9]
    generalize u / p = q at *
    omega
theorem zm_nn {d : Nat} (hd : d < 10) : (if lN 0 ≤ -lN d then lN 48 + -lN d else lN 48 + - -lN d) = lN (48 + d) := by
  have : d = 0 ∨ d = 1 ∨ d = 2 ∨ d = 3 ∨ d = 4 ∨ d = 5 ∨ d = 6 ∨ d = 7 ∨ d = 8 ∨ d = 9 := by omega
  rcases this with rfl | rfl | rfl | rfl | rfl | rfl | rfl | rfl | rfl | rfl <;> decide
theorem zm_np2 {d : Nat} (hd : d < 10) : (if lN 0 ≤ lN d then lN 48 + lN d else lN 48 + - lN d) = lN (48 + d) := by
  have : d = 0 ∨ d = 1 ∨ d = 2 ∨ d = 3 ∨ d = 4 ∨ d = 5 ∨ d = 6 ∨ d = 7 ∨ d = 8 ∨ d = 9 := by omega
  rcases this with rfl | rfl | rfl | rfl | rfl | rfl | rfl | rfl | rfl | rfl <;> decide
theorem zm_isd {x : Int64} {u p : Nat} (h : zm_is x u) (hp : p < 2 ^ 63) : (if lN 0 ≤ x / lN p - x / lN p / lN 10 * lN 10 then lN 48 + (x / lN p - x / lN p / lN 10 * lN 10) else lN 48 + -(x / lN p - x / lN p / lN 10 * lN 10)) = lN (48 + u / p % 10) := by
  obtain ⟨h1, ⟨rfl, h2⟩ | ⟨rfl, h2⟩⟩ := h
  · have hle : u / p ≤ u := Nat.div_le_self _ _
    rw [zm_ln_div h2 hp, zm_ln_mod (by omega)]
    exact zm_np2 (Nat.mod_lt _ (by decide))
  · have hle : u / p ≤ u := Nat.div_le_self _ _
    rw [zm_ng_div h1 hp, zm_ng_mod (by omega)]
    exact zm_nn (Nat.mod_lt _ (by decide))
theorem zm_pow {j : Nat} (hj : j ≤ 18) : 10 ^ j < 2 ^ 63 ∧ 0 < 10 ^ j := by
  have := Nat.pow_le_pow_right (n := 10) (by decide) hj
  exact ⟨by omega, Nat.pow_pos (by decide)⟩
theorem zm_lnpos {a : Nat} (ha : a < 2 ^ 63) (h0 : 0 < a) : ¬ lN a = lN 0 ∧ ¬ lN a ≤ lN 0 := by
  refine ⟨fun e => ?_, fun e => ?_⟩
  · have := (zm_eqL (by omega) (by omega)).mp e; omega
  · rw [Int64.le_iff_toInt_le, zm_lnI ha, zm_lnI (by omega)] at e; omega
theorem zm_R_43 {n : Nat} {h : zx_H} {x : Int64} {u : Nat} (hx : zm_is x u) {c : Nat} : ∀ j F s, j ≤ zm_p u → j + 1 < F → zm_B n h (zm_tx c u) (zm_tl c u - (j + 1)) s → ∃ s1, zx_loop (fun _ _ _ => none) zs_Ref_writeNumber_L43_body F x (lN (10 ^ j)) s = some s1 ∧ zm_B n h (zm_tx c u) (zm_tl c u) s1 := by
  obtain ⟨p1, p2, p3⟩ := zm_p_ok hx.1
  have hw := zm_w1 c
  have ht : zm_tl c u = zm_w c + zm_p u + 1 := rfl
  have step : ∀ j s, j ≤ zm_p u → zm_B n h (zm_tx c u) (zm_tl c u - (j + 1)) s → ∃ s1, zm_B n h (zm_tx c u) (zm_tl c u - j) s1 ∧ ∀ k9, zs_Ref_writeNumber_L43_body k9 x (lN (10 ^ j)) s = k9 x (lN (10 ^ j) / lN 10) s1 := by
    intro j s hj a
    obtain ⟨q1, q2⟩ := zm_pow (j := j) (by omega)
    obtain ⟨r1, r2⟩ := zm_lnpos q1 q2
    have hm : u / 10 ^ j % 10 < 10 := Nat.mod_lt _ (by decide)
    have e := zm_isd hx q1
    obtain ⟨s1, e1, e2⟩ := zm_write (by omega) a
    have e2 : zm_B n h (zm_tx c u) (zm_tl c u - j) s1 := (show zm_tl c u - (j + 1) + 1 = zm_tl c u - j by omega) ▸ e2
    have ef : zm_tx c u (zm_tl c u - (j + 1)) = 48 + u / 10 ^ j % 10 := by
      unfold zm_tx
      rw [if_neg (by omega), show zm_p u + zm_w c - (zm_tl c u - (j + 1)) = j by omega]
      rfl
    rw [ef] at e1
    refine ⟨s1, e2, fun k9 => ?_⟩
    by_cases c0 : lN 0 ≤ x / lN (10 ^ j) - x / lN (10 ^ j) / lN 10 * lN 10
    · rw [if_pos c0] at e
      simp (disch := omega) only [zs_Ref_writeNumber_L43_body, zs_Ref_writeNumber_J77, ze_L48, r1, r2, c0, e, e1, ↓zd_bnd, ↓zy_bm, if_true, if_false, ite_true, ite_false, ↓reduceIte, Bool.false_eq_true, Bool.true_eq_false, eq_self, true_and, and_true, false_and, and_false, reduceCtorEq, decide_true, decide_false, not_true_eq_false, not_false_eq_true, ze_ltT, ze_ltF, ze_leT, ze_leF, ze_eqT, ze_eqF, ze_mlt, ze_ltm, ze_mle, ze_lem, ze_meq, ze_eqm, ze_mm, ze_mltm, ze_inT, ze_inF, ze_inM, ze_cl, ze_fin, ze_decT, ze_decF, Nat.reduceSub, Nat.reduceMul, nI_add, Nat.add_sub_cancel, Nat.add_assoc, Nat.reduceAdd, ze_r8, ze_r24, ze_r40, ze_r400, ze_l8, ze_l16, ze_l24, ze_l40, ze_sub, ze_am1, ze_es, ze_en, ze_i64, ze_m64, ze_64i, ze_64m, ze_LltT, ze_LltF, ze_LleT, ze_LleF, ze_LeqT, ze_LeqF, ze_Lmlt, ze_Lltm, ze_Lmle, ze_Llem, ze_Lmeq, ze_Leqm, ze_Lmm, lN_add, ze_ch, ze_chd, ze_bt, ze_bf, ze_n0, ze_n1, ze_n2, ze_n3, ze_n4, ze_n5, ze_n6, ze_n7, ze_n8, ze_n9, ze_n10, ze_n11, ze_n12, ze_n13, ze_n14, ze_n15, ze_n16, ze_n17, ze_n18, ze_n19, ze_n20, ze_n21, ze_n22, ze_n23, ze_n24, ze_n25, ze_n26, ze_n27, ze_n28, ze_n29, ze_n30, ze_n31, ze_n32, ze_n33, ze_n34, ze_n35, ze_n36, ze_n37, ze_n38, ze_n39, ze_n40, ze_n48, ze_n63, ze_n64, ze_n65, ze_n80, ze_n100, ze_n128, ze_n200, ze_n255, ze_n300, ze_n320, ze_n384, ze_n400, ze_n512, ze_n1023, ze_n1600, ze_n6400, ze_n9600, ze_n32768, ze_n65535, ze_n65536, ze_n802, ze_n8191, ze_L0, ze_L1, ze_L2, ze_L3, ze_L4, ze_L5, ze_L6, ze_L7, ze_L8, ze_L9, ze_L10, ze_L15, ze_L16, ze_L24, ze_L40, ze_L48, ze_L63, ze_L64, ze_L127, ze_L255, ze_L400, ze_L1024, ze_L2047, ze_L65535]
    · rw [if_neg c0] at e
      simp (disch := omega) only [zs_Ref_writeNumber_L43_body, zs_Ref_writeNumber_J77, ze_L48, r1, r2, c0, e, e1, ↓zd_bnd, ↓zy_bm, if_true, if_false, ite_true, ite_false, ↓reduceIte, Bool.false_eq_true, Bool.true_eq_false, eq_self, true_and, and_true, false_and, and_false, reduceCtorEq, decide_true, decide_false, not_true_eq_false, not_false_eq_true, ze_ltT, ze_ltF, ze_leT, ze_leF, ze_eqT, ze_eqF, ze_mlt, ze_ltm, ze_mle, ze_lem, ze_meq, ze_eqm, ze_mm, ze_mltm, ze_inT, ze_inF, ze_inM, ze_cl, ze_fin, ze_decT, ze_decF, Nat.reduceSub, Nat.reduceMul, nI_add, Nat.add_sub_cancel, Nat.add_assoc, Nat.reduceAdd, ze_r8, ze_r24, ze_r40, ze_r400, ze_l8, ze_l16, ze_l24, ze_l40, ze_sub, ze_am1, ze_es, ze_en, ze_i64, ze_m64, ze_64i, ze_64m, ze_LltT, ze_LltF, ze_LleT, ze_LleF, ze_LeqT, ze_LeqF, ze_Lmlt, ze_Lltm, ze_Lmle, ze_Llem, ze_Lmeq, ze_Leqm, ze_Lmm, lN_add, ze_ch, ze_chd, ze_bt, ze_bf, ze_n0, ze_n1, ze_n2, ze_n3, ze_n4, ze_n5, ze_n6, ze_n7, ze_n8, ze_n9, ze_n10, ze_n11, ze_n12, ze_n13, ze_n14, ze_n15, ze_n16, ze_n17, ze_n18, ze_n19, ze_n20, ze_n21, ze_n22, ze_n23, ze_n24, ze_n25, ze_n26, ze_n27, ze_n28, ze_n29, ze_n30, ze_n31, ze_n32, ze_n33, ze_n34, ze_n35, ze_n36, ze_n37, ze_n38, ze_n39, ze_n40, ze_n48, ze_n63, ze_n64, ze_n65, ze_n80, ze_n100, ze_n128, ze_n200, ze_n255, ze_n300, ze_n320, ze_n384, ze_n400, ze_n512, ze_n1023, ze_n1600, ze_n6400, ze_n9600, ze_n32768, ze_n65535, ze_n65536, ze_n802, ze_n8191, ze_L0, ze_L1, ze_L2, ze_L3, ze_L4, ze_L5, ze_L6, ze_L7, ze_L8, ze_L9, ze_L10, ze_L15, ze_L16, ze_L24, ze_L40, ze_L48, ze_L63, ze_L64, ze_L127, ze_L255, ze_L400, ze_L1024, ze_L2047, ze_L65535]
  intro j
  induction j with
  | zero =>
    intro F s hj hF a
    obtain ⟨F, rfl⟩ : ∃ G, F = G + 1 + 1 := ⟨F - 2, by omega⟩
    obtain ⟨s1, e1, e2⟩ := step 0 s hj a
    refine ⟨s1, ?_, e1⟩
    show zs_Ref_writeNumber_L43_body _ x (lN (10 ^ 0)) s = _
    rw [e2]
    have e3 : lN (10 ^ 0) / lN 10 = lN 0 := by decide
    rw [e3]
    show zs_Ref_writeNumber_L43_body _ x (lN 0) s1 = _
    simp (disch := omega) only [zs_Ref_writeNumber_L43_body, ↓zd_bnd, ↓zy_bm, if_true, if_false, ite_true, ite_false, ↓reduceIte, Bool.false_eq_true, Bool.true_eq_false, eq_self, true_and, and_true, false_and, and_false, reduceCtorEq, decide_true, decide_false, not_true_eq_false, not_false_eq_true, ze_ltT, ze_ltF, ze_leT, ze_leF, ze_eqT, ze_eqF, ze_mlt, ze_ltm, ze_mle, ze_lem, ze_meq, ze_eqm, ze_mm, ze_mltm, ze_inT, ze_inF, ze_inM, ze_cl, ze_fin, ze_decT, ze_decF, Nat.reduceSub, Nat.reduceMul, nI_add, Nat.add_sub_cancel, Nat.add_assoc, Nat.reduceAdd, ze_r8, ze_r24, ze_r40, ze_r400, ze_l8, ze_l16, ze_l24, ze_l40, ze_sub, ze_am1, ze_es, ze_en, ze_i64, ze_m64, ze_64i, ze_64m, ze_LltT, ze_LltF, ze_LleT, ze_LleF, ze_LeqT, ze_LeqF, ze_Lmlt, ze_Lltm, ze_Lmle, ze_Llem, ze_Lmeq, ze_Leqm, ze_Lmm, lN_add, ze_ch, ze_chd, ze_bt, ze_bf, ze_n0, ze_n1, ze_n2, ze_n3, ze_n4, ze_n5, ze_n6, ze_n7, ze_n8, ze_n9, ze_n10, ze_n11, ze_n12, ze_n13, ze_n14, ze_n15, ze_n16, ze_n17, ze_n18, ze_n19, ze_n20, ze_n21, ze_n22, ze_n23, ze_n24, ze_n25, ze_n26, ze_n27, ze_n28, ze_n29, ze_n30, ze_n31, ze_n32, ze_n33, ze_n34, ze_n35, ze_n36, ze_n37, ze_n38, ze_n39, ze_n40, ze_n48, ze_n63, ze_n64, ze_n65, ze_n80, ze_n100, ze_n128, ze_n200, ze_n255, ze_n300, ze_n320, ze_n384, ze_n400, ze_n512, ze_n1023, ze_n1600, ze_n6400, ze_n9600, ze_n32768, ze_n65535, ze_n65536, ze_n802, ze_n8191, ze_L0, ze_L1, ze_L2, ze_L3, ze_L4, ze_L5, ze_L6, ze_L7, ze_L8, ze_L9, ze_L10, ze_L15, ze_L16, ze_L24, ze_L40, ze_L48, ze_L63, ze_L64, ze_L127, ze_L255, ze_L400, ze_L1024, ze_L2047, ze_L65535]
  | succ j ih =>
    intro F s hj hF a
    obtain ⟨F, rfl⟩ : ∃ G, F = G + 1 := ⟨F - 1, by omega⟩
    obtain ⟨s1, e1, e2⟩ := step (j + 1) s hj a
    obtain ⟨s2, e3, e4⟩ := ih F s1 (by omega) (by omega) e1
    refine ⟨s2, ?_, e4⟩
    rw [← e3]
    show zs_Ref_writeNumber_L43_body _ x (lN (10 ^ (j + 1))) s = _
    rw [e2]
    obtain ⟨q1, q2⟩ := zm_pow (j := j + 1) (by omega)
    have e5 : lN (10 ^ (j + 1)) / lN 10 = lN (10 ^ j) := by
      rw [zm_ln_div q1 (by omega), Nat.pow_succ, Nat.mul_div_cancel _ (by decide)]
    rw [e5]
    rfl
theorem zm_R_14 {n : Nat} {h : zx_H} {x : Int64} {u : Nat} (hx : zm_is x u) {c : Nat} {s : zx_H} (a : zm_B n h (zm_tx c u) (zm_w c) s) : ∀ d j F, j + d = zm_p u → d + 1 < F → ∃ s1, zx_loop (fun _ _ _ => none) zs_Ref_writeNumber_L14_body F x (lN (10 ^ j)) s = some s1 ∧ zm_B n h (zm_tx c u) (zm_tl c u) s1 := by
  obtain ⟨p1, p2, p3⟩ := zm_p_ok hx.1
  intro d
  induction d with
  | zero =>
    intro j F hj hF
    obtain ⟨F, rfl⟩ : ∃ G, F = G + 1 := ⟨F - 1, by omega⟩
    have hj : j = zm_p u := hj
    subst hj
    obtain ⟨q1, q2⟩ := zm_pow (j := zm_p u) (by omega)
    obtain ⟨r1, r2⟩ := zm_lnpos q1 q2
    have h9 := zm_is9 hx q1
    have : u / 10 ^ zm_p u < 10 := Nat.div_lt_of_lt_mul (by rw [← Nat.pow_succ]; exact p2)
    have h8 : ¬ (lN 9 < x / lN (10 ^ zm_p u) ∨ ¬ (-9 : Int64) ≤ x / lN (10 ^ zm_p u)) := fun z => by have := h9.mp z; omega
    have d1 : ¬ lN 9 < x / lN (10 ^ zm_p u) := fun z => h8 (Or.inl z)
    have d2 : (-lN 9) ≤ x / lN (10 ^ zm_p u) := Decidable.not_not.mp (fun z => h8 (Or.inr z))
    have ht : zm_tl c u - (zm_p u + 1) = zm_w c := by unfold zm_tl; omega
    obtain ⟨s1, e1, e2⟩ := zm_R_43 hx (c := c) (zm_p u) zx_fuel s (Nat.le_refl _) (by unfold zx_fuel; omega) (ht ▸ a)
    refine ⟨s1, ?_, e2⟩
    have e1 : zs_Ref_writeNumber_L43 x (lN (10 ^ zm_p u)) s = some s1 := e1
    rw [← e1]
    show zs_Ref_writeNumber_L14_body _ x (lN (10 ^ zm_p u)) s = _
    simp (disch := omega) only [zs_Ref_writeNumber_L14_body, r1, d1, d2, ↓zd_bnd, ↓zy_bm, if_true, if_false, ite_true, ite_false, ↓reduceIte, Bool.false_eq_true, Bool.true_eq_false, eq_self, true_and, and_true, false_and, and_false, reduceCtorEq, decide_true, decide_false, not_true_eq_false, not_false_eq_true, ze_ltT, ze_ltF, ze_leT, ze_leF, ze_eqT, ze_eqF, ze_mlt, ze_ltm, ze_mle, ze_lem, ze_meq, ze_eqm, ze_mm, ze_mltm, ze_inT, ze_inF, ze_inM, ze_cl, ze_fin, ze_decT, ze_decF, Nat.reduceSub, Nat.reduceMul, nI_add, Nat.add_sub_cancel, Nat.add_assoc, Nat.reduceAdd, ze_r8, ze_r24, ze_r40, ze_r400, ze_l8, ze_l16, ze_l24, ze_l40, ze_sub, ze_am1, ze_es, ze_en, ze_i64, ze_m64, ze_64i, ze_64m, ze_LltT, ze_LltF, ze_LleT, ze_LleF, ze_LeqT, ze_LeqF, ze_Lmlt, ze_Lltm, ze_Lmle, ze_Llem, ze_Lmeq, ze_Leqm, ze_Lmm, lN_add, ze_ch, ze_chd, ze_bt, ze_bf, ze_n0, ze_n1, ze_n2, ze_n3, ze_n4, ze_n5, ze_n6, ze_n7, ze_n8, ze_n9, ze_n10, ze_n11, ze_n12, ze_n13, ze_n14, ze_n15, ze_n16, ze_n17, ze_n18, ze_n19, ze_n20, ze_n21, ze_n22, ze_n23, ze_n24, ze_n25, ze_n26, ze_n27, ze_n28, ze_n29, ze_n30, ze_n31, ze_n32, ze_n33, ze_n34, ze_n35, ze_n36, ze_n37, ze_n38, ze_n39, ze_n40, ze_n48, ze_n63, ze_n64, ze_n65, ze_n80, ze_n100, ze_n128, ze_n200, ze_n255, ze_n300, ze_n320, ze_n384, ze_n400, ze_n512, ze_n1023, ze_n1600, ze_n6400, ze_n9600, ze_n32768, ze_n65535, ze_n65536, ze_n802, ze_n8191, ze_L0, ze_L1, ze_L2, ze_L3, ze_L4, ze_L5, ze_L6, ze_L7, ze_L8, ze_L9, ze_L10, ze_L15, ze_L16, ze_L24, ze_L40, ze_L48, ze_L63, ze_L64, ze_L127, ze_L255, ze_L400, ze_L1024, ze_L2047, ze_L65535]
  | succ d ih =>
    intro j F hj hF
    obtain ⟨F, rfl⟩ : ∃ G, F = G + 1 := ⟨F - 1, by omega⟩
    obtain ⟨s1, e1, e2⟩ := ih (j + 1) F (by omega) (by omega)
    refine ⟨s1, ?_, e2⟩
    rw [← e1]
    obtain ⟨q1, q2⟩ := zm_pow (j := j) (by omega)
    obtain ⟨r1, r2⟩ := zm_lnpos q1 q2
    have h9 := (zm_is9 hx q1).mpr (by
      have := p3 j (by omega)
      have h1 := Nat.div_le_div_right (c := 10 ^ j) this
      rw [Nat.pow_succ, Nat.mul_comm, Nat.mul_div_cancel _ q2] at h1
      omega)
    have e3 : lN (10 ^ j) * lN 10 = lN (10 ^ (j + 1)) := by rw [zm_mulN, Nat.pow_succ]
    show zs_Ref_writeNumber_L14_body _ x (lN (10 ^ j)) s = _
    by_cases d1 : lN 9 < x / lN (10 ^ j)
    · simp (disch := omega) only [zs_Ref_writeNumber_L14_body, zs_Ref_writeNumber_J34, r1, d1, e3, ↓zd_bnd, ↓zy_bm, if_true, if_false, ite_true, ite_false, ↓reduceIte, Bool.false_eq_true, Bool.true_eq_false, eq_self, true_and, and_true, false_and, and_false, reduceCtorEq, decide_true, decide_false, not_true_eq_false, not_false_eq_true, ze_ltT, ze_ltF, ze_leT, ze_leF, ze_eqT, ze_eqF, ze_mlt, ze_ltm, ze_mle, ze_lem, ze_meq, ze_eqm, ze_mm, ze_mltm, ze_inT, ze_inF, ze_inM, ze_cl, ze_fin, ze_decT, ze_decF, Nat.reduceSub, Nat.reduceMul, nI_add, Nat.add_sub_cancel, Nat.add_assoc, Nat.reduceAdd, ze_r8, ze_r24, ze_r40, ze_r400, ze_l8, ze_l16, ze_l24, ze_l40, ze_sub, ze_am1, ze_es, ze_en, ze_i64, ze_m64, ze_64i, ze_64m, ze_LltT, ze_LltF, ze_LleT, ze_LleF, ze_LeqT, ze_LeqF, ze_Lmlt, ze_Lltm, ze_Lmle, ze_Llem, ze_Lmeq, ze_Leqm, ze_Lmm, lN_add, ze_ch, ze_chd, ze_bt, ze_bf, ze_n0, ze_n1, ze_n2, ze_n3, ze_n4, ze_n5, ze_n6, ze_n7, ze_n8, ze_n9, ze_n10, ze_n11, ze_n12, ze_n13, ze_n14, ze_n15, ze_n16, ze_n17, ze_n18, ze_n19, ze_n20, ze_n21, ze_n22, ze_n23, ze_n24, ze_n25, ze_n26, ze_n27, ze_n28, ze_n29, ze_n30, ze_n31, ze_n32, ze_n33, ze_n34, ze_n35, ze_n36, ze_n37, ze_n38, ze_n39, ze_n40, ze_n48, ze_n63, ze_n64, ze_n65, ze_n80, ze_n100, ze_n128, ze_n200, ze_n255, ze_n300, ze_n320, ze_n384, ze_n400, ze_n512, ze_n1023, ze_n1600, ze_n6400, ze_n9600, ze_n32768, ze_n65535, ze_n65536, ze_n802, ze_n8191, ze_L0, ze_L1, ze_L2, ze_L3, ze_L4, ze_L5, ze_L6, ze_L7, ze_L8, ze_L9, ze_L10, ze_L15, ze_L16, ze_L24, ze_L40, ze_L48, ze_L63, ze_L64, ze_L127, ze_L255, ze_L400, ze_L1024, ze_L2047, ze_L65535]
      rfl
    · have d2 : ¬ (-lN 9) ≤ x / lN (10 ^ j) := h9.resolve_left d1
      simp (disch := omega) only [zs_Ref_writeNumber_L14_body, zs_Ref_writeNumber_J34, r1, d1, d2, e3, ↓zd_bnd, ↓zy_bm, if_true, if_false, ite_true, ite_false, ↓reduceIte, Bool.false_eq_true, Bool.true_eq_false, eq_self, true_and, and_true, false_and, and_false, reduceCtorEq, decide_true, decide_false, not_true_eq_false, not_false_eq_true, ze_ltT, ze_ltF, ze_leT, ze_leF, ze_eqT, ze_eqF, ze_mlt, ze_ltm, ze_mle, ze_lem, ze_meq, ze_eqm, ze_mm, ze_mltm, ze_inT, ze_inF, ze_inM, ze_cl, ze_fin, ze_decT, ze_decF, Nat.reduceSub, Nat.reduceMul, nI_add, Nat.add_sub_cancel, Nat.add_assoc, Nat.reduceAdd, ze_r8, ze_r24, ze_r40, ze_r400, ze_l8, ze_l16, ze_l24, ze_l40, ze_sub, ze_am1, ze_es, ze_en, ze_i64, ze_m64, ze_64i, ze_64m, ze_LltT, ze_LltF, ze_LleT, ze_LleF, ze_LeqT, ze_LeqF, ze_Lmlt, ze_Lltm, ze_Lmle, ze_Llem, ze_Lmeq, ze_Leqm, ze_Lmm, lN_add, ze_ch, ze_chd, ze_bt, ze_bf, ze_n0, ze_n1, ze_n2, ze_n3, ze_n4, ze_n5, ze_n6, ze_n7, ze_n8, ze_n9, ze_n10, ze_n11, ze_n12, ze_n13, ze_n14, ze_n15, ze_n16, ze_n17, ze_n18, ze_n19, ze_n20, ze_n21, ze_n22, ze_n23, ze_n24, ze_n25, ze_n26, ze_n27, ze_n28, ze_n29, ze_n30, ze_n31, ze_n32, ze_n33, ze_n34, ze_n35, ze_n36, ze_n37, ze_n38, ze_n39, ze_n40, ze_n48, ze_n63, ze_n64, ze_n65, ze_n80, ze_n100, ze_n128, ze_n200, ze_n255, ze_n300, ze_n320, ze_n384, ze_n400, ze_n512, ze_n1023, ze_n1600, ze_n6400, ze_n9600, ze_n32768, ze_n65535, ze_n65536, ze_n802, ze_n8191, ze_L0, ze_L1, ze_L2, ze_L3, ze_L4, ze_L5, ze_L6, ze_L7, ze_L8, ze_L9, ze_L10, ze_L15, ze_L16, ze_L24, ze_L40, ze_L48, ze_L63, ze_L64, ze_L127, ze_L255, ze_L400, ze_L1024, ze_L2047, ze_L65535]
      rfl
