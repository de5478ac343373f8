/-! the digits of a number -/
theorem zm_lnI {u : Nat} (hu : u < 2 ^ 63) : (lN u).toInt = (u : Int) := by
  rw [zn_int, zn_uN (by omega), if_pos hu]
theorem zm_ngI {u : Nat} (hu : u ≤ 2 ^ 63) : (-lN u).toInt = -(u : Int) := by
  rw [Int64.toInt_neg]
  by_cases c : u < 2 ^ 63
  · rw [zm_lnI c, Int.bmod_def]
    split <;> omega
  · have : u = 2 ^ 63 := by omega
    subst this
    decide
theorem zm_div {a b : Int64} (h : b.toInt ≠ -1) : (a / b).toInt = a.toInt.tdiv b.toInt := by
  rw [Int64.toInt_div_of_ne_right _ _ (fun e => h (by rw [e]; decide))]
theorem zm_10 : (lN 10).toInt = 10 := by decide
theorem zm_td (u p : Nat) : Int.tdiv (u : Int) (p : Int) = ((u / p : Nat) : Int) := by
  rw [Int.ofNat_tdiv]
theorem zm_tn (u p : Nat) : Int.tdiv (-(u : Int)) (p : Int) = -((u / p : Nat) : Int) := by
  rw [Int.neg_tdiv, zm_td]
theorem zm_ng_div {u p : Nat} (hu : u ≤ 2 ^ 63) (hp : p < 2 ^ 63) : -lN u / lN p = -lN (u / p) := by
  have hle : u / p ≤ u := Nat.div_le_self _ _
  rw [zn_eqI, zm_div (by rw [zm_lnI hp]; omega), zm_ngI hu, zm_lnI hp, zm_ngI (by omega), zm_tn]
theorem zm_ln_div {u p : Nat} (hu : u < 2 ^ 63) (hp : p < 2 ^ 63) : lN u / lN p = lN (u / p) := by
  have hle : u / p ≤ u := Nat.div_le_self _ _
  rw [zn_eqI, zm_div (by rw [zm_lnI hp]; omega), zm_lnI hu, zm_lnI hp, zm_lnI (by omega), zm_td]
theorem zm_mulN (a b : Nat) : lN a * lN b = lN (a * b) := by
  apply wb_inj
  rw [Int64.toBitVec_mul, wb_tb, wb_tb, wb_tb]
  apply BitVec.eq_of_toNat_eq
  rw [BitVec.toNat_mul, BitVec.toNat_ofNat, BitVec.toNat_ofNat, BitVec.toNat_ofNat, ← Nat.mul_mod]
theorem zm_ng_mod {u : Nat} (hu : u ≤ 2 ^ 63) : -lN u - -lN u / lN 10 * lN 10 = -lN (u % 10) := by
  rw [zm_ng_div hu (by omega), zn_eqI, Int64.toInt_sub, Int64.toInt_mul, zm_ngI hu, zm_ngI (by omega), zm_10, zm_ngI (by omega), Int.bmod_def, Int.bmod_def]
  split <;> split <;> omega
theorem zm_ln_mod {u : Nat} (hu : u < 2 ^ 63) : lN u - lN u / lN 10 * lN 10 = lN (u % 10) := by
  rw [zm_ln_div hu (by omega), zn_eqI, Int64.toInt_sub, Int64.toInt_mul, zm_lnI hu, zm_lnI (by omega), zm_10, zm_lnI (by omega), Int.bmod_def, Int.bmod_def]
  split <;> split <;> omega
theorem zm_48 {d : Nat} (hd : d < 10) : lN 48 - -lN d = lN (48 + d) := by
  have : d = 0 ∨ d = 1 ∨ d = 2 ∨ d = 3 ∨ d = 4 ∨ d = 5 ∨ d = 6 ∨ d = 7 ∨ d = 8 ∨ d = 9 := by omega
  rcases this with rfl | rfl | rfl | rfl | rfl | rfl | rfl | rfl | rfl | rfl <;> decide
theorem zm_ng0 {u : Nat} (hu : u ≤ 2 ^ 63) : -lN u = lN 0 ↔ u = 0 := by
  rw [zn_eqI, zm_ngI hu, zm_lnI (by omega)]
  omega
/-- how many digits, less one -/
def zm_p (u : Nat) : Nat := match zd_first (fun d => decide (u < 10 ^ (d + 1))) 19 with
  | some d => d
  | none => 0
theorem zm_p_ok {u : Nat} (hu : u ≤ 2 ^ 63) : zm_p u < 19 ∧ u < 10 ^ (zm_p u + 1) ∧ ∀ q, q < zm_p u → 10 ^ (q + 1) ≤ u := by
  unfold zm_p
  cases e : zd_first (fun d => decide (u < 10 ^ (d + 1))) 19 with
  | none =>
    have := zd_first_none.mp e 18 (by omega)
    simp only [decide_eq_false_iff_not] at this
    omega
  | some d =>
    obtain ⟨h1, h2, h3⟩ := zd_first_some.mp e
    simp only [decide_eq_true_eq] at h2
    refine ⟨h1, h2, fun q hq => ?_⟩
    have := h3 q hq
    simp only [decide_eq_false_iff_not] at this
    omega
def zm_dg (u i : Nat) : Nat := 48 + u / 10 ^ i % 10
/-- the characters: c ahead if it is not 0, then the digits -/
def zm_w (c : Nat) : Nat := if c = 0 then 0 else 1
def zm_tx (c u i : Nat) : Nat := if i < zm_w c then c else zm_dg u (zm_p u + zm_w c - i)
def zm_tl (c u : Nat) : Nat := zm_w c + zm_p u + 1
theorem zm_w1 (c : Nat) : zm_w c ≤ 1 := by unfold zm_w; split <;> omega
theorem zg_I_congr {n : Nat} {h s : zx_H} {t k : Nat} {f g : Nat → Int64} (a : zg_I n h t f k s) (e : ∀ i, i < k → f i = g i) : zg_I n h t g k s := ⟨a.1, a.2.1, a.2.2.1, a.2.2.2.1, fun i hi => (a.2.2.2.2 i hi).trans (e i hi)⟩
theorem zg_C_set1 {n : Nat} {h s : zx_H} (hn : n < 400) {t k : Nat} {f : Nat → Int64} (hk : k ≤ 24) (a : zg_I n h t f k s) {j : Nat} (hj : j < k) (v : Int64) : ∃ s1, zs_Store_set (nI n) (nI j) v s = some (true, s1) ∧ zg_I n h t (fun i => if i = j then v else f i) k s1 := by
  obtain ⟨a1, a2, a3, a4, a5⟩ := a
  refine ⟨zx_sJ s 10 0 (24 * n + j) v, ?_, zd_gC_J a1 _ (by omega), ?_, ?_, ?_, fun i hi => ?_⟩
  · simp (disch := omega) only [zs_Store_set_J31, zs_Store_set_J30, zs_Store_set, a2, a4, ↓zd_bnd, ↓zy_bm, if_true, if_false, ite_true, ite_false, ↓reduceIte, Bool.false_eq_true, Bool.true_eq_false, eq_self, true_and, and_true, false_and, and_false, reduceCtorEq, decide_true, decide_false, not_true_eq_false, not_false_eq_true, ze_ltT, ze_ltF, ze_leT, ze_leF, ze_eqT, ze_eqF, ze_mlt, ze_ltm, ze_mle, ze_lem, ze_meq, ze_eqm, ze_mm, ze_mltm, ze_inT, ze_inF, ze_inM, ze_cl, ze_fin, ze_decT, ze_decF, Nat.reduceSub, Nat.reduceMul, nI_add, Nat.add_sub_cancel, Nat.add_assoc, Nat.reduceAdd, ze_r8, ze_r24, ze_r40, ze_r400, ze_l8, ze_l16, ze_l24, ze_l40, ze_sub, ze_am1, ze_es, ze_en, ze_i64, ze_m64, ze_64i, ze_64m, ze_LltT, ze_LltF, ze_LleT, ze_LleF, ze_LeqT, ze_LeqF, ze_Lmlt, ze_Lltm, ze_Lmle, ze_Llem, ze_Lmeq, ze_Leqm, ze_Lmm, lN_add, ze_ch, ze_chd, ze_bt, ze_bf, ze_n0, ze_n1, ze_n2, ze_n3, ze_n4, ze_n5, ze_n6, ze_n7, ze_n8, ze_n9, ze_n10, ze_n11, ze_n12, ze_n13, ze_n14, ze_n15, ze_n16, ze_n17, ze_n18, ze_n19, ze_n20, ze_n21, ze_n22, ze_n23, ze_n24, ze_n25, ze_n26, ze_n27, ze_n28, ze_n29, ze_n30, ze_n31, ze_n32, ze_n33, ze_n34, ze_n35, ze_n36, ze_n37, ze_n38, ze_n39, ze_n40, ze_n48, ze_n63, ze_n64, ze_n65, ze_n80, ze_n100, ze_n128, ze_n200, ze_n255, ze_n300, ze_n320, ze_n384, ze_n400, ze_n512, ze_n1023, ze_n1600, ze_n6400, ze_n9600, ze_n32768, ze_n65535, ze_n65536, ze_n802, ze_n8191, ze_L0, ze_L1, ze_L2, ze_L3, ze_L4, ze_L5, ze_L6, ze_L7, ze_L8, ze_L9, ze_L10, ze_L15, ze_L16, ze_L24, ze_L40, ze_L48, ze_L63, ze_L64, ze_L127, ze_L255, ze_L400, ze_L1024, ze_L2047, ze_L65535, ze_gIs, ze_gIn, ze_gJs, ze_gJn, zd_gI2, zd_gJ1, ze_sII]
  · exact a2
  · exact a3
  · exact a4
  · show _ = (if i = j then v else f i)
    by_cases e : i = j
    · subst e; rw [if_pos rfl]; simp (disch := omega) only [ze_gIs, ze_gIn, ze_gJs, ze_gJn, zd_gI2, zd_gJ1, ze_sII]
    · rw [if_neg e]; simp (disch := omega) only [ze_gIs, ze_gIn, ze_gJs, ze_gJn, zd_gI2, zd_gJ1, ze_sII]; exact a5 i hi
theorem zg_I_len {n : Nat} {h s : zx_H} (hn : n < 400) {t k : Nat} {f : Nat → Int64} (hk : k ≤ 24) (a : zg_I n h t f k s) : zs_Store_length (nI n) s = some (nI k) := by
  obtain ⟨a1, a2, a3, a4, a5⟩ := a
  simp (disch := omega) only [zs_Store_length, a2, a4, ↓zd_bnd, ↓zy_bm, if_true, if_false, ite_true, ite_false, ↓reduceIte, Bool.false_eq_true, Bool.true_eq_false, eq_self, true_and, and_true, false_and, and_false, reduceCtorEq, decide_true, decide_false, not_true_eq_false, not_false_eq_true, ze_ltT, ze_ltF, ze_leT, ze_leF, ze_eqT, ze_eqF, ze_mlt, ze_ltm, ze_mle, ze_lem, ze_meq, ze_eqm, ze_mm, ze_mltm, ze_inT, ze_inF, ze_inM, ze_cl, ze_fin, ze_decT, ze_decF, Nat.reduceSub, Nat.reduceMul, nI_add, Nat.add_sub_cancel, Nat.add_assoc, Nat.reduceAdd, ze_r8, ze_r24, ze_r40, ze_r400, ze_l8, ze_l16, ze_l24, ze_l40, ze_sub, ze_am1, ze_es, ze_en, ze_i64, ze_m64, ze_64i, ze_64m, ze_LltT, ze_LltF, ze_LleT, ze_LleF, ze_LeqT, ze_LeqF, ze_Lmlt, ze_Lltm, ze_Lmle, ze_Llem, ze_Lmeq, ze_Leqm, ze_Lmm, lN_add, ze_ch, ze_chd, ze_bt, ze_bf, ze_n0, ze_n1, ze_n2, ze_n3, ze_n4, ze_n5, ze_n6, ze_n7, ze_n8, ze_n9, ze_n10, ze_n11, ze_n12, ze_n13, ze_n14, ze_n15, ze_n16, ze_n17, ze_n18, ze_n19, ze_n20, ze_n21, ze_n22, ze_n23, ze_n24, ze_n25, ze_n26, ze_n27, ze_n28, ze_n29, ze_n30, ze_n31, ze_n32, ze_n33, ze_n34, ze_n35, ze_n36, ze_n37, ze_n38, ze_n39, ze_n40, ze_n48, ze_n63, ze_n64, ze_n65, ze_n80, ze_n100, ze_n128, ze_n200, ze_n255, ze_n300, ze_n320, ze_n384, ze_n400, ze_n512, ze_n1023, ze_n1600, ze_n6400, ze_n9600, ze_n32768, ze_n65535, ze_n65536, ze_n802, ze_n8191, ze_L0, ze_L1, ze_L2, ze_L3, ze_L4, ze_L5, ze_L6, ze_L7, ze_L8, ze_L9, ze_L10, ze_L15, ze_L16, ze_L24, ze_L40, ze_L48, ze_L63, ze_L64, ze_L127, ze_L255, ze_L400, ze_L1024, ze_L2047, ze_L65535]
theorem zm_C_zeros {n : Nat} {h : zx_H} (hn : n < 400) {u : Nat} (hu : u ≤ 2 ^ 63) {c : Nat} (b0 : Int64) : ∀ d i F s, i + d = zm_p u + 1 → d < F → zg_I n h 14 (fun k => if k < zm_w c then lN c else lN 48) (zm_w c + i) s → ∃ s1, zx_loop (fun _ _ _ _ _ => none) zs_Converter_writeNumber_L36_body F (nI n) b0 (nI i) (-lN (u / 10 ^ i)) s = zs_Converter_writeNumber_J81 (nI n) b0 (nI (zm_p u + 1)) s1 ∧ zg_I n h 14 (fun k => if k < zm_w c then lN c else lN 48) (zm_w c + (zm_p u + 1)) s1 := by
  obtain ⟨p1, p2, p3⟩ := zm_p_ok hu
  have hw := zm_w1 c
  intro d
  induction d with
  | zero =>
    intro i F s hi hF a
    obtain ⟨F, rfl⟩ : ∃ G, F = G + 1 := ⟨F - 1, by omega⟩
    have hi : i = zm_p u + 1 := hi
    subst hi
    refine ⟨s, ?_, a⟩
    have z : -lN (u / 10 ^ (zm_p u + 1)) = lN 0 := by rw [Nat.div_eq_of_lt p2]; decide
    show zs_Converter_writeNumber_L36_body _ (nI n) b0 (nI (zm_p u + 1)) (-lN (u / 10 ^ (zm_p u + 1))) s = _
    simp (disch := omega) only [zs_Converter_writeNumber_L36_body, z, ↓zd_bnd, ↓zy_bm, if_true, if_false, ite_true, ite_false, ↓reduceIte, Bool.false_eq_true, Bool.true_eq_false, eq_self, true_and, and_true, false_and, and_false, reduceCtorEq, decide_true, decide_false, not_true_eq_false, not_false_eq_true, ze_ltT, ze_ltF, ze_leT, ze_leF, ze_eqT, ze_eqF, ze_mlt, ze_ltm, ze_mle, ze_lem, ze_meq, ze_eqm, ze_mm, ze_mltm, ze_inT, ze_inF, ze_inM, ze_cl, ze_fin, ze_decT, ze_decF, Nat.reduceSub, Nat.reduceMul, nI_add, Nat.add_sub_cancel, Nat.add_assoc, Nat.reduceAdd, ze_r8, ze_r24, ze_r40, ze_r400, ze_l8, ze_l16, ze_l24, ze_l40, ze_sub, ze_am1, ze_es, ze_en, ze_i64, ze_m64, ze_64i, ze_64m, ze_LltT, ze_LltF, ze_LleT, ze_LleF, ze_LeqT, ze_LeqF, ze_Lmlt, ze_Lltm, ze_Lmle, ze_Llem, ze_Lmeq, ze_Leqm, ze_Lmm, lN_add, ze_ch, ze_chd, ze_bt, ze_bf, ze_n0, ze_n1, ze_n2, ze_n3, ze_n4, ze_n5, ze_n6, ze_n7, ze_n8, ze_n9, ze_n10, ze_n11, ze_n12, ze_n13, ze_n14, ze_n15, ze_n16, ze_n17, ze_n18, ze_n19, ze_n20, ze_n21, ze_n22, ze_n23, ze_n24, ze_n25, ze_n26, ze_n27, ze_n28, ze_n29, ze_n30, ze_n31, ze_n32, ze_n33, ze_n34, ze_n35, ze_n36, ze_n37, ze_n38, ze_n39, ze_n40, ze_n48, ze_n63, ze_n64, ze_n65, ze_n80, ze_n100, ze_n128, ze_n200, ze_n255, ze_n300, ze_n320, ze_n384, ze_n400, ze_n512, ze_n1023, ze_n1600, ze_n6400, ze_n9600, ze_n32768, ze_n65535, ze_n65536, ze_n802, ze_n8191, ze_L0, ze_L1, ze_L2, ze_L3, ze_L4, ze_L5, ze_L6, ze_L7, ze_L8, ze_L9, ze_L10, ze_L15, ze_L16, ze_L24, ze_L40, ze_L48, ze_L63, ze_L64, ze_L127, ze_L255, ze_L400, ze_L1024, ze_L2047, ze_L65535]
  | succ d ih =>
    intro i F s hi hF a
    obtain ⟨F, rfl⟩ : ∃ G, F = G + 1 := ⟨F - 1, by omega⟩
    obtain ⟨s1, e1, e2⟩ := zg_C_app1 hn (by omega) a
    rw [if_neg (by omega)] at e1
    obtain ⟨s2, e3, e4⟩ := ih (i + 1) F s1 (by omega) (by omega) e2
    refine ⟨s2, ?_, e4⟩
    rw [← e3]
    have e5 : -lN (u / 10 ^ i) / lN 10 = -lN (u / 10 ^ (i + 1)) := by
      have : u / 10 ^ i ≤ u := Nat.div_le_self _ _
      rw [zm_ng_div (by omega) (by omega), Nat.div_div_eq_div_mul, ← Nat.pow_succ]
    show zs_Converter_writeNumber_L36_body _ (nI n) b0 (nI i) (-lN (u / 10 ^ i)) s = _
    by_cases c0 : i = 0
    · subst c0
      simp (disch := omega) only [zs_Converter_writeNumber_L36_body, zs_Converter_writeNumber_J55, ze_L48, e1, e5, ↓zd_bnd, ↓zy_bm, if_true, if_false, ite_true, ite_false, ↓reduceIte, Bool.false_eq_true, Bool.true_eq_false, eq_self, true_and, and_true, false_and, and_false, reduceCtorEq, decide_true, decide_false, not_true_eq_false, not_false_eq_true, ze_ltT, ze_ltF, ze_leT, ze_leF, ze_eqT, ze_eqF, ze_mlt, ze_ltm, ze_mle, ze_lem, ze_meq, ze_eqm, ze_mm, ze_mltm, ze_inT, ze_inF, ze_inM, ze_cl, ze_fin, ze_decT, ze_decF, Nat.reduceSub, Nat.reduceMul, nI_add, Nat.add_sub_cancel, Nat.add_assoc, Nat.reduceAdd, ze_r8, ze_r24, ze_r40, ze_r400, ze_l8, ze_l16, ze_l24, ze_l40, ze_sub, ze_am1, ze_es, ze_en, ze_i64, ze_m64, ze_64i, ze_64m, ze_LltT, ze_LltF, ze_LleT, ze_LleF, ze_LeqT, ze_LeqF, ze_Lmlt, ze_Lltm, ze_Lmle, ze_Llem, ze_Lmeq, ze_Leqm, ze_Lmm, lN_add, ze_ch, ze_chd, ze_bt, ze_bf, ze_n0, ze_n1, ze_n2, ze_n3, ze_n4, ze_n5, ze_n6, ze_n7, ze_n8, ze_n9, ze_n10, ze_n11, ze_n12, ze_n13, ze_n14, ze_n15, ze_n16, ze_n17, ze_n18, ze_n19, ze_n20, ze_n21, ze_n22, ze_n23, ze_n24, ze_n25, ze_n26, ze_n27, ze_n28, ze_n29, ze_n30, ze_n31, ze_n32, ze_n33, ze_n34, ze_n35, ze_n36, ze_n37, ze_n38, ze_n39, ze_n40, ze_n48, ze_n63, ze_n64, ze_n65, ze_n80, ze_n100, ze_n128, ze_n200, ze_n255, ze_n300, ze_n320, ze_n384, ze_n400, ze_n512, ze_n1023, ze_n1600, ze_n6400, ze_n9600, ze_n32768, ze_n65535, ze_n65536, ze_n802, ze_n8191, ze_L0, ze_L1, ze_L2, ze_L3, ze_L4, ze_L5, ze_L6, ze_L7, ze_L8, ze_L9, ze_L10, ze_L15, ze_L16, ze_L24, ze_L40, ze_L48, ze_L63, ze_L64, ze_L127, ze_L255, ze_L400, ze_L1024, ze_L2047, ze_L65535]
      rfl
    · have z : ¬ -lN (u / 10 ^ i) = lN 0 := by
        have h1 : u / 10 ^ i ≤ u := Nat.div_le_self _ _
        rw [zm_ng0 (by omega)]
        have h2 := p3 (i - 1) (by omega)
        rw [show i - 1 + 1 = i by omega] at h2
        have := Nat.div_pos h2 (Nat.pow_pos (by decide))
        omega
      simp (disch := omega) only [zs_Converter_writeNumber_L36_body, zs_Converter_writeNumber_J55, ze_L48, z, e1, e5, ↓zd_bnd, ↓zy_bm, if_true, if_false, ite_true, ite_false, ↓reduceIte, Bool.false_eq_true, Bool.true_eq_false, eq_self, true_and, and_true, false_and, and_false, reduceCtorEq, decide_true, decide_false, not_true_eq_false, not_false_eq_true, ze_ltT, ze_ltF, ze_leT, ze_leF, ze_eqT, ze_eqF, ze_mlt, ze_ltm, ze_mle, ze_lem, ze_meq, ze_eqm, ze_mm, ze_mltm, ze_inT, ze_inF, ze_inM, ze_cl, ze_fin, ze_decT, ze_decF, Nat.reduceSub, Nat.reduceMul, nI_add, Nat.add_sub_cancel, Nat.add_assoc, Nat.reduceAdd, ze_r8, ze_r24, ze_r40, ze_r400, ze_l8, ze_l16, ze_l24, ze_l40, ze_sub, ze_am1, ze_es, ze_en, ze_i64, ze_m64, ze_64i, ze_64m, ze_LltT, ze_LltF, ze_LleT, ze_LleF, ze_LeqT, ze_LeqF, ze_Lmlt, ze_Lltm, ze_Lmle, ze_Llem, ze_Lmeq, ze_Leqm, ze_Lmm, lN_add, ze_ch, ze_chd, ze_bt, ze_bf, ze_n0, ze_n1, ze_n2, ze_n3, ze_n4, ze_n5, ze_n6, ze_n7, ze_n8, ze_n9, ze_n10, ze_n11, ze_n12, ze_n13, ze_n14, ze_n15, ze_n16, ze_n17, ze_n18, ze_n19, ze_n20, ze_n21, ze_n22, ze_n23, ze_n24, ze_n25, ze_n26, ze_n27, ze_n28, ze_n29, ze_n30, ze_n31, ze_n32, ze_n33, ze_n34, ze_n35, ze_n36, ze_n37, ze_n38, ze_n39, ze_n40, ze_n48, ze_n63, ze_n64, ze_n65, ze_n80, ze_n100, ze_n128, ze_n200, ze_n255, ze_n300, ze_n320, ze_n384, ze_n400, ze_n512, ze_n1023, ze_n1600, ze_n6400, ze_n9600, ze_n32768, ze_n65535, ze_n65536, ze_n802, ze_n8191, ze_L0, ze_L1, ze_L2, ze_L3, ze_L4, ze_L5, ze_L6, ze_L7, ze_L8, ze_L9, ze_L10, ze_L15, ze_L16, ze_L24, ze_L40, ze_L48, ze_L63, ze_L64, ze_L127, ze_L255, ze_L400, ze_L1024, ze_L2047, ze_L65535]
      rfl

theorem zm_C_digits {n : Nat} {h : zx_H} (hn : n < 400) {u : Nat} (hu : u ≤ 2 ^ 63) {c : Nat} : ∀ d i F s, i + d = zm_p u + 1 → d < F → zg_I n h 14 (fun k => if k < zm_w c then lN c else if zm_w c + zm_p u < k + i then lN (zm_dg u (zm_p u + zm_w c - k)) else lN 48) (zm_w c + (zm_p u + 1)) s → ∃ s1, zx_loop (fun _ _ _ _ _ _ => none) zs_Converter_writeNumber_L96_body F (nI n) (-lN (u / 10 ^ i)) (nI (zm_p u + 1)) (nI (zm_w c + zm_p u)) (nI i) s = some s1 ∧ zg_I n h 14 (fun k => lN (zm_tx c u k)) (zm_tl c u) s1 := by
  obtain ⟨p1, p2, p3⟩ := zm_p_ok hu
  have hw := zm_w1 c
  intro d
  induction d with
  | zero =>
    intro i F s hi hF a
    obtain ⟨F, rfl⟩ : ∃ G, F = G + 1 := ⟨F - 1, by omega⟩
    have hi : i = zm_p u + 1 := hi
    subst hi
    refine ⟨s, ?_, ?_⟩
    · show zs_Converter_writeNumber_L96_body _ (nI n) _ (nI (zm_p u + 1)) _ (nI (zm_p u + 1)) s = _
      simp (disch := omega) only [zs_Converter_writeNumber_L96_body, ↓zd_bnd, ↓zy_bm, if_true, if_false, ite_true, ite_false, ↓reduceIte, Bool.false_eq_true, Bool.true_eq_false, eq_self, true_and, and_true, false_and, and_false, reduceCtorEq, decide_true, decide_false, not_true_eq_false, not_false_eq_true, ze_ltT, ze_ltF, ze_leT, ze_leF, ze_eqT, ze_eqF, ze_mlt, ze_ltm, ze_mle, ze_lem, ze_meq, ze_eqm, ze_mm, ze_mltm, ze_inT, ze_inF, ze_inM, ze_cl, ze_fin, ze_decT, ze_decF, Nat.reduceSub, Nat.reduceMul, nI_add, Nat.add_sub_cancel, Nat.add_assoc, Nat.reduceAdd, ze_r8, ze_r24, ze_r40, ze_r400, ze_l8, ze_l16, ze_l24, ze_l40, ze_sub, ze_am1, ze_es, ze_en, ze_i64, ze_m64, ze_64i, ze_64m, ze_LltT, ze_LltF, ze_LleT, ze_LleF, ze_LeqT, ze_LeqF, ze_Lmlt, ze_Lltm, ze_Lmle, ze_Llem, ze_Lmeq, ze_Leqm, ze_Lmm, lN_add, ze_ch, ze_chd, ze_bt, ze_bf, ze_n0, ze_n1, ze_n2, ze_n3, ze_n4, ze_n5, ze_n6, ze_n7, ze_n8, ze_n9, ze_n10, ze_n11, ze_n12, ze_n13, ze_n14, ze_n15, ze_n16, ze_n17, ze_n18, ze_n19, ze_n20, ze_n21, ze_n22, ze_n23, ze_n24, ze_n25, ze_n26, ze_n27, ze_n28, ze_n29, ze_n30, ze_n31, ze_n32, ze_n33, ze_n34, ze_n35, ze_n36, ze_n37, ze_n38, ze_n39, ze_n40, ze_n48, ze_n63, ze_n64, ze_n65, ze_n80, ze_n100, ze_n128, ze_n200, ze_n255, ze_n300, ze_n320, ze_n384, ze_n400, ze_n512, ze_n1023, ze_n1600, ze_n6400, ze_n9600, ze_n32768, ze_n65535, ze_n65536, ze_n802, ze_n8191, ze_L0, ze_L1, ze_L2, ze_L3, ze_L4, ze_L5, ze_L6, ze_L7, ze_L8, ze_L9, ze_L10, ze_L15, ze_L16, ze_L24, ze_L40, ze_L48, ze_L63, ze_L64, ze_L127, ze_L255, ze_L400, ze_L1024, ze_L2047, ze_L65535]
    · have a : zg_I n h 14 _ (zm_tl c u) s := (show zm_tl c u = zm_w c + (zm_p u + 1) from rfl) ▸ a
      refine zg_I_congr a (fun k hk => ?_)
      unfold zm_tx
      show (if k < zm_w c then lN c else if zm_w c + zm_p u < k + (zm_p u + 1) then lN (zm_dg u (zm_p u + zm_w c - k)) else lN 48) = _
      by_cases c1 : k < zm_w c
      · rw [if_pos c1, if_pos c1]
      · rw [if_neg c1, if_neg c1, if_pos (by omega)]
  | succ d ih =>
    intro i F s hi hF a
    obtain ⟨F, rfl⟩ : ∃ G, F = G + 1 := ⟨F - 1, by omega⟩
    have hle : u / 10 ^ i ≤ u := Nat.div_le_self _ _
    have hm : u / 10 ^ i % 10 < 10 := Nat.mod_lt _ (by decide)
    obtain ⟨s1, e1, e2⟩ := zg_C_set1 hn (by omega) a (j := zm_w c + zm_p u - i) (by omega) (lN (48 + u / 10 ^ i % 10))
    have e2 : zg_I n h 14 (fun k => if k < zm_w c then lN c else if zm_w c + zm_p u < k + (i + 1) then lN (zm_dg u (zm_p u + zm_w c - k)) else lN 48) (zm_w c + (zm_p u + 1)) s1 := by
      refine zg_I_congr e2 (fun k hk => ?_)
      show (if k = zm_w c + zm_p u - i then lN (48 + u / 10 ^ i % 10) else if k < zm_w c then lN c else if zm_w c + zm_p u < k + i then lN (zm_dg u (zm_p u + zm_w c - k)) else lN 48) = (if k < zm_w c then lN c else if zm_w c + zm_p u < k + (i + 1) then lN (zm_dg u (zm_p u + zm_w c - k)) else lN 48)
      by_cases c1 : k = zm_w c + zm_p u - i
      · rw [if_pos c1, if_neg (by omega), if_pos (by omega)]
        unfold zm_dg
        rw [show zm_p u + zm_w c - k = i by omega]
      · rw [if_neg c1]
        by_cases c2 : k < zm_w c
        · rw [if_pos c2, if_pos c2]
        · rw [if_neg c2, if_neg c2]
          by_cases c3 : zm_w c + zm_p u < k + i
          · rw [if_pos c3, if_pos (by omega)]
          · rw [if_neg c3, if_neg (by omega)]
    obtain ⟨s2, e3, e4⟩ := ih (i + 1) F s1 (by omega) (by omega) e2
    refine ⟨s2, ?_, e4⟩
    rw [← e3]
    have e5 : -lN (u / 10 ^ i) / lN 10 = -lN (u / 10 ^ (i + 1)) := by
      rw [zm_ng_div (by omega) (by omega), Nat.div_div_eq_div_mul, ← Nat.pow_succ]
    have e6 : -lN (u / 10 ^ i) - -lN (u / 10 ^ (i + 1)) * lN 10 = -lN (u / 10 ^ i % 10) := by
      rw [← e5]; exact zm_ng_mod (by omega)
    have e7 : lN 48 - -lN (u / 10 ^ i % 10) = lN (48 + u / 10 ^ i % 10) := zm_48 hm
    have e8 : nI (zm_w c + zm_p u) - nI i = nI (zm_w c + zm_p u - i) := by simp (disch := omega) only [↓zd_bnd, ↓zy_bm, if_true, if_false, ite_true, ite_false, ↓reduceIte, Bool.false_eq_true, Bool.true_eq_false, eq_self, true_and, and_true, false_and, and_false, reduceCtorEq, decide_true, decide_false, not_true_eq_false, not_false_eq_true, ze_ltT, ze_ltF, ze_leT, ze_leF, ze_eqT, ze_eqF, ze_mlt, ze_ltm, ze_mle, ze_lem, ze_meq, ze_eqm, ze_mm, ze_mltm, ze_inT, ze_inF, ze_inM, ze_cl, ze_fin, ze_decT, ze_decF, Nat.reduceSub, Nat.reduceMul, nI_add, Nat.add_sub_cancel, Nat.add_assoc, Nat.reduceAdd, ze_r8, ze_r24, ze_r40, ze_r400, ze_l8, ze_l16, ze_l24, ze_l40, ze_sub, ze_am1, ze_es, ze_en, ze_i64, ze_m64, ze_64i, ze_64m, ze_LltT, ze_LltF, ze_LleT, ze_LleF, ze_LeqT, ze_LeqF, ze_Lmlt, ze_Lltm, ze_Lmle, ze_Llem, ze_Lmeq, ze_Leqm, ze_Lmm, lN_add, ze_ch, ze_chd, ze_bt, ze_bf, ze_n0, ze_n1, ze_n2, ze_n3, ze_n4, ze_n5, ze_n6, ze_n7, ze_n8, ze_n9, ze_n10, ze_n11, ze_n12, ze_n13, ze_n14, ze_n15, ze_n16, ze_n17, ze_n18, ze_n19, ze_n20, ze_n21, ze_n22, ze_n23, ze_n24, ze_n25, ze_n26, ze_n27, ze_n28, ze_n29, ze_n30, ze_n31, ze_n32, ze_n33, ze_n34, ze_n35, ze_n36, ze_n37, ze_n38, ze_n39, ze_n40, ze_n48, ze_n63, ze_n64, ze_n65, ze_n80, ze_n100, ze_n128, ze_n200, ze_n255, ze_n300, ze_n320, ze_n384, ze_n400, ze_n512, ze_n1023, ze_n1600, ze_n6400, ze_n9600, ze_n32768, ze_n65535, ze_n65536, ze_n802, ze_n8191, ze_L0, ze_L1, ze_L2, ze_L3, ze_L4, ze_L5, ze_L6, ze_L7, ze_L8, ze_L9, ze_L10, ze_L15, ze_L16, ze_L24, ze_L40, ze_L48, ze_L63, ze_L64, ze_L127, ze_L255, ze_L400, ze_L1024, ze_L2047, ze_L65535]
    show zs_Converter_writeNumber_L96_body _ (nI n) (-lN (u / 10 ^ i)) (nI (zm_p u + 1)) (nI (zm_w c + zm_p u)) (nI i) s = _
    simp (disch := omega) only [zs_Converter_writeNumber_L96_body, ze_L48, e5, e6, e7, e8, e1, ↓zd_bnd, ↓zy_bm, if_true, if_false, ite_true, ite_false, ↓reduceIte, Bool.false_eq_true, Bool.true_eq_false, eq_self, true_and, and_true, false_and, and_false, reduceCtorEq, decide_true, decide_false, not_true_eq_false, not_false_eq_true, ze_ltT, ze_ltF, ze_leT, ze_leF, ze_eqT, ze_eqF, ze_mlt, ze_ltm, ze_mle, ze_lem, ze_meq, ze_eqm, ze_mm, ze_mltm, ze_inT, ze_inF, ze_inM, ze_cl, ze_fin, ze_decT, ze_decF, Nat.reduceSub, Nat.reduceMul, nI_add, Nat.add_sub_cancel, Nat.add_assoc, Nat.reduceAdd, ze_r8, ze_r24, ze_r40, ze_r400, ze_l8, ze_l16, ze_l24, ze_l40, ze_sub, ze_am1, ze_es, ze_en, ze_i64, ze_m64, ze_64i, ze_64m, ze_LltT, ze_LltF, ze_LleT, ze_LleF, ze_LeqT, ze_LeqF, ze_Lmlt, ze_Lltm, ze_Lmle, ze_Llem, ze_Lmeq, ze_Leqm, ze_Lmm, lN_add, ze_ch, ze_chd, ze_bt, ze_bf, ze_n0, ze_n1, ze_n2, ze_n3, ze_n4, ze_n5, ze_n6, ze_n7, ze_n8, ze_n9, ze_n10, ze_n11, ze_n12, ze_n13, ze_n14, ze_n15, ze_n16, ze_n17, ze_n18, ze_n19, ze_n20, ze_n21, ze_n22, ze_n23, ze_n24, ze_n25, ze_n26, ze_n27, ze_n28, ze_n29, ze_n30, ze_n31, ze_n32, ze_n33, ze_n34, ze_n35, ze_n36, ze_n37, ze_n38, ze_n39, ze_n40, ze_n48, ze_n63, ze_n64, ze_n65, ze_n80, ze_n100, ze_n128, ze_n200, ze_n255, ze_n300, ze_n320, ze_n384, ze_n400, ze_n512, ze_n1023, ze_n1600, ze_n6400, ze_n9600, ze_n32768, ze_n65535, ze_n65536, ze_n802, ze_n8191, ze_L0, ze_L1, ze_L2, ze_L3, ze_L4, ze_L5, ze_L6, ze_L7, ze_L8, ze_L9, ze_L10, ze_L15, ze_L16, ze_L24, ze_L40, ze_L48, ze_L63, ze_L64, ze_L127, ze_L255, ze_L400, ze_L1024, ze_L2047, ze_L65535]
    rfl
/-- the class writes a number at the end of a text -/
theorem zm_C_writeNumber {n : Nat} {h s : zx_H} (hn : n < 400) {u : Nat} (hu : u ≤ 2 ^ 63) {c : Nat} (hc : c < 65536) {x : Int64} (hx : (if (0 : Int64) ≤ x then -x else x) = -lN u) (a : ∀ f, zg_I n h 14 f 0 s) : ∃ s1, zs_Converter_writeNumber (nI n) (nI c) x s = some s1 ∧ zg_I n h 14 (fun k => lN (zm_tx c u k)) (zm_tl c u) s1 := by
  obtain ⟨p1, p2, p3⟩ := zm_p_ok hu
  have hw := zm_w1 c
  have key : ∀ s0, zg_I n h 14 (fun k => if k < zm_w c then lN c else lN 48) (zm_w c) s0 → ∃ s1, zs_Converter_writeNumber_J15 (nI n) x s0 = some s1 ∧ zg_I n h 14 (fun k => lN (zm_tx c u k)) (zm_tl c u) s1 := by
    intro s0 a0
    obtain ⟨s1, e1, e2⟩ := zm_C_zeros hn hu (c := c) (-lN u) (zm_p u + 1) 0 zx_fuel s0 (by omega) (by unfold zx_fuel; omega) a0
    have a3 : zg_I n h 14 (fun k => if k < zm_w c then lN c else if zm_w c + zm_p u < k + 0 then lN (zm_dg u (zm_p u + zm_w c - k)) else lN 48) (zm_w c + (zm_p u + 1)) s1 := by
      refine zg_I_congr e2 (fun k hk => ?_)
      show (if k < zm_w c then lN c else lN 48) = (if k < zm_w c then lN c else if zm_w c + zm_p u < k + 0 then lN (zm_dg u (zm_p u + zm_w c - k)) else lN 48)
      rw [if_neg (show ¬ zm_w c + zm_p u < k + 0 by omega)]
    obtain ⟨s2, e3, e4⟩ := zm_C_digits hn hu (zm_p u + 1) 0 zx_fuel s1 (by omega) (by unfold zx_fuel; omega) a3
    refine ⟨s2, ?_, e4⟩
    rw [Nat.pow_zero, Nat.div_one] at e1 e3
    have e1 : zs_Converter_writeNumber_L36 (nI n) (-lN u) (nI 0) (-lN u) s0 = zs_Converter_writeNumber_J81 (nI n) (-lN u) (nI (zm_p u + 1)) s1 := e1
    have e3 : zs_Converter_writeNumber_L96 (nI n) (-lN u) (nI (zm_p u + 1)) (nI (zm_w c + zm_p u)) (nI 0) s1 = some s2 := e3
    have el := zg_I_len hn (by omega) e2
    have es : nI (zm_w c + (zm_p u + 1)) - nI 1 = nI (zm_w c + zm_p u) := by simp (disch := omega) only [↓zd_bnd, ↓zy_bm, if_true, if_false, ite_true, ite_false, ↓reduceIte, Bool.false_eq_true, Bool.true_eq_false, eq_self, true_and, and_true, false_and, and_false, reduceCtorEq, decide_true, decide_false, not_true_eq_false, not_false_eq_true, ze_ltT, ze_ltF, ze_leT, ze_leF, ze_eqT, ze_eqF, ze_mlt, ze_ltm, ze_mle, ze_lem, ze_meq, ze_eqm, ze_mm, ze_mltm, ze_inT, ze_inF, ze_inM, ze_cl, ze_fin, ze_decT, ze_decF, Nat.reduceSub, Nat.reduceMul, nI_add, Nat.add_sub_cancel, Nat.add_assoc, Nat.reduceAdd, ze_r8, ze_r24, ze_r40, ze_r400, ze_l8, ze_l16, ze_l24, ze_l40, ze_sub, ze_am1, ze_es, ze_en, ze_i64, ze_m64, ze_64i, ze_64m, ze_LltT, ze_LltF, ze_LleT, ze_LleF, ze_LeqT, ze_LeqF, ze_Lmlt, ze_Lltm, ze_Lmle, ze_Llem, ze_Lmeq, ze_Leqm, ze_Lmm, lN_add, ze_ch, ze_chd, ze_bt, ze_bf, ze_n0, ze_n1, ze_n2, ze_n3, ze_n4, ze_n5, ze_n6, ze_n7, ze_n8, ze_n9, ze_n10, ze_n11, ze_n12, ze_n13, ze_n14, ze_n15, ze_n16, ze_n17, ze_n18, ze_n19, ze_n20, ze_n21, ze_n22, ze_n23, ze_n24, ze_n25, ze_n26, ze_n27, ze_n28, ze_n29, ze_n30, ze_n31, ze_n32, ze_n33, ze_n34, ze_n35, ze_n36, ze_n37, ze_n38, ze_n39, ze_n40, ze_n48, ze_n63, ze_n64, ze_n65, ze_n80, ze_n100, ze_n128, ze_n200, ze_n255, ze_n300, ze_n320, ze_n384, ze_n400, ze_n512, ze_n1023, ze_n1600, ze_n6400, ze_n9600, ze_n32768, ze_n65535, ze_n65536, ze_n802, ze_n8191, ze_L0, ze_L1, ze_L2, ze_L3, ze_L4, ze_L5, ze_L6, ze_L7, ze_L8, ze_L9, ze_L10, ze_L15, ze_L16, ze_L24, ze_L40, ze_L48, ze_L63, ze_L64, ze_L127, ze_L255, ze_L400, ze_L1024, ze_L2047, ze_L65535]
    have g : zs_Converter_writeNumber_J15 (nI n) x s0 = zs_Converter_writeNumber_J27 (nI n) (-lN u) s0 := by
      rw [← hx]
      unfold zs_Converter_writeNumber_J15
      by_cases c0 : (0 : Int64) ≤ x
      · rw [if_pos c0, if_pos c0]
      · rw [if_neg c0, if_neg c0]
    rw [g]
    simp (disch := omega) only [zs_Converter_writeNumber_J27, zs_Converter_writeNumber_J81, e1, el, es, e3, ↓zd_bnd, ↓zy_bm, if_true, if_false, ite_true, ite_false, ↓reduceIte, Bool.false_eq_true, Bool.true_eq_false, eq_self, true_and, and_true, false_and, and_false, reduceCtorEq, decide_true, decide_false, not_true_eq_false, not_false_eq_true, ze_ltT, ze_ltF, ze_leT, ze_leF, ze_eqT, ze_eqF, ze_mlt, ze_ltm, ze_mle, ze_lem, ze_meq, ze_eqm, ze_mm, ze_mltm, ze_inT, ze_inF, ze_inM, ze_cl, ze_fin, ze_decT, ze_decF, Nat.reduceSub, Nat.reduceMul, nI_add, Nat.add_sub_cancel, Nat.add_assoc, Nat.reduceAdd, ze_r8, ze_r24, ze_r40, ze_r400, ze_l8, ze_l16, ze_l24, ze_l40, ze_sub, ze_am1, ze_es, ze_en, ze_i64, ze_m64, ze_64i, ze_64m, ze_LltT, ze_LltF, ze_LleT, ze_LleF, ze_LeqT, ze_LeqF, ze_Lmlt, ze_Lltm, ze_Lmle, ze_Llem, ze_Lmeq, ze_Leqm, ze_Lmm, lN_add, ze_ch, ze_chd, ze_bt, ze_bf, ze_n0, ze_n1, ze_n2, ze_n3, ze_n4, ze_n5, ze_n6, ze_n7, ze_n8, ze_n9, ze_n10, ze_n11, ze_n12, ze_n13, ze_n14, ze_n15, ze_n16, ze_n17, ze_n18, ze_n19, ze_n20, ze_n21, ze_n22, ze_n23, ze_n24, ze_n25, ze_n26, ze_n27, ze_n28, ze_n29, ze_n30, ze_n31, ze_n32, ze_n33, ze_n34, ze_n35, ze_n36, ze_n37, ze_n38, ze_n39, ze_n40, ze_n48, ze_n63, ze_n64, ze_n65, ze_n80, ze_n100, ze_n128, ze_n200, ze_n255, ze_n300, ze_n320, ze_n384, ze_n400, ze_n512, ze_n1023, ze_n1600, ze_n6400, ze_n9600, ze_n32768, ze_n65535, ze_n65536, ze_n802, ze_n8191, ze_L0, ze_L1, ze_L2, ze_L3, ze_L4, ze_L5, ze_L6, ze_L7, ze_L8, ze_L9, ze_L10, ze_L15, ze_L16, ze_L24, ze_L40, ze_L48, ze_L63, ze_L64, ze_L127, ze_L255, ze_L400, ze_L1024, ze_L2047, ze_L65535]
  by_cases c0 : c = 0
  · subst c0
    obtain ⟨s1, e1, e2⟩ := key s (a _)
    refine ⟨s1, ?_, e2⟩
    rw [← e1]
    simp (disch := omega) only [zs_Converter_writeNumber, ↓zd_bnd, ↓zy_bm, if_true, if_false, ite_true, ite_false, ↓reduceIte, Bool.false_eq_true, Bool.true_eq_false, eq_self, true_and, and_true, false_and, and_false, reduceCtorEq, decide_true, decide_false, not_true_eq_false, not_false_eq_true, ze_ltT, ze_ltF, ze_leT, ze_leF, ze_eqT, ze_eqF, ze_mlt, ze_ltm, ze_mle, ze_lem, ze_meq, ze_eqm, ze_mm, ze_mltm, ze_inT, ze_inF, ze_inM, ze_cl, ze_fin, ze_decT, ze_decF, Nat.reduceSub, Nat.reduceMul, nI_add, Nat.add_sub_cancel, Nat.add_assoc, Nat.reduceAdd, ze_r8, ze_r24, ze_r40, ze_r400, ze_l8, ze_l16, ze_l24, ze_l40, ze_sub, ze_am1, ze_es, ze_en, ze_i64, ze_m64, ze_64i, ze_64m, ze_LltT, ze_LltF, ze_LleT, ze_LleF, ze_LeqT, ze_LeqF, ze_Lmlt, ze_Lltm, ze_Lmle, ze_Llem, ze_Lmeq, ze_Leqm, ze_Lmm, lN_add, ze_ch, ze_chd, ze_bt, ze_bf, ze_n0, ze_n1, ze_n2, ze_n3, ze_n4, ze_n5, ze_n6, ze_n7, ze_n8, ze_n9, ze_n10, ze_n11, ze_n12, ze_n13, ze_n14, ze_n15, ze_n16, ze_n17, ze_n18, ze_n19, ze_n20, ze_n21, ze_n22, ze_n23, ze_n24, ze_n25, ze_n26, ze_n27, ze_n28, ze_n29, ze_n30, ze_n31, ze_n32, ze_n33, ze_n34, ze_n35, ze_n36, ze_n37, ze_n38, ze_n39, ze_n40, ze_n48, ze_n63, ze_n64, ze_n65, ze_n80, ze_n100, ze_n128, ze_n200, ze_n255, ze_n300, ze_n320, ze_n384, ze_n400, ze_n512, ze_n1023, ze_n1600, ze_n6400, ze_n9600, ze_n32768, ze_n65535, ze_n65536, ze_n802, ze_n8191, ze_L0, ze_L1, ze_L2, ze_L3, ze_L4, ze_L5, ze_L6, ze_L7, ze_L8, ze_L9, ze_L10, ze_L15, ze_L16, ze_L24, ze_L40, ze_L48, ze_L63, ze_L64, ze_L127, ze_L255, ze_L400, ze_L1024, ze_L2047, ze_L65535]
  · have w1 : zm_w c = 1 := if_neg c0
    obtain ⟨s0, e1, e2⟩ := zg_C_app1 hn (by omega) (a (fun k => if k < zm_w c then lN c else lN 48))
    rw [if_pos (by omega)] at e1
    obtain ⟨s1, e3, e4⟩ := key s0 (Eq.mpr (congrArg (fun q => zg_I n h 14 (fun k => if k < zm_w c then lN c else lN 48) q s0) w1) e2)
    refine ⟨s1, ?_, e4⟩
    rw [← e3]
    simp (disch := omega) only [zs_Converter_writeNumber, c0, e1, ↓zd_bnd, ↓zy_bm, if_true, if_false, ite_true, ite_false, ↓reduceIte, Bool.false_eq_true, Bool.true_eq_false, eq_self, true_and, and_true, false_and, and_false, reduceCtorEq, decide_true, decide_false, not_true_eq_false, not_false_eq_true, ze_ltT, ze_ltF, ze_leT, ze_leF, ze_eqT, ze_eqF, ze_mlt, ze_ltm, ze_mle, ze_lem, ze_meq, ze_eqm, ze_mm, ze_mltm, ze_inT, ze_inF, ze_inM, ze_cl, ze_fin, ze_decT, ze_decF, Nat.reduceSub, Nat.reduceMul, nI_add, Nat.add_sub_cancel, Nat.add_assoc, Nat.reduceAdd, ze_r8, ze_r24, ze_r40, ze_r400, ze_l8, ze_l16, ze_l24, ze_l40, ze_sub, ze_am1, ze_es, ze_en, ze_i64, ze_m64, ze_64i, ze_64m, ze_LltT, ze_LltF, ze_LleT, ze_LleF, ze_LeqT, ze_LeqF, ze_Lmlt, ze_Lltm, ze_Lmle, ze_Llem, ze_Lmeq, ze_Leqm, ze_Lmm, lN_add, ze_ch, ze_chd, ze_bt, ze_bf, ze_n0, ze_n1, ze_n2, ze_n3, ze_n4, ze_n5, ze_n6, ze_n7, ze_n8, ze_n9, ze_n10, ze_n11, ze_n12, ze_n13, ze_n14, ze_n15, ze_n16, ze_n17, ze_n18, ze_n19, ze_n20, ze_n21, ze_n22, ze_n23, ze_n24, ze_n25, ze_n26, ze_n27, ze_n28, ze_n29, ze_n30, ze_n31, ze_n32, ze_n33, ze_n34, ze_n35, ze_n36, ze_n37, ze_n38, ze_n39, ze_n40, ze_n48, ze_n63, ze_n64, ze_n65, ze_n80, ze_n100, ze_n128, ze_n200, ze_n255, ze_n300, ze_n320, ze_n384, ze_n400, ze_n512, ze_n1023, ze_n1600, ze_n6400, ze_n9600, ze_n32768, ze_n65535, ze_n65536, ze_n802, ze_n8191, ze_L0, ze_L1, ze_L2, ze_L3, ze_L4, ze_L5, ze_L6, ze_L7, ze_L8, ze_L9, ze_L10, ze_L15, ze_L16, ze_L24, ze_L40, ze_L48, ze_L63, ze_L64, ze_L127, ze_L255, ze_L400, ze_L1024, ze_L2047, ze_L65535]
