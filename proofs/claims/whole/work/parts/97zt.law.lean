/-! the law's loop -/
theorem zl_T {X : Option (Int32 × zx_H)} {Y : zx_H → Option (Int32 × zx_H)} {K : zx_H → Option Bool} (T : zd_turn zq_Q X Y) (hK : ∀ h2, zd_S zq_Q h2 → K h2 = some true) : (X.bind (fun r1 => (Y r1.2).bind (fun r2 => (zs_Ref_thrown r2.2).bind (fun r3 => (if r3 = r1.1 then (if r1.1 = 0 then (if zx_in (0 : Int32) 1 = true then (if (r2.2.2 52 0 (0 : Int32).toNatClampNeg) = (r2.1.toInt64) then K r2.2 else (some false)) else none) else K r2.2) else (some false)))))) = some true := by
  obtain ⟨c, h1, b, h2, e1, e2, e3, e4, e5⟩ := T
  rw [e1]
  show (Y h1).bind _ = _
  rw [e2]
  show (if h2.1 24 0 0 = c then (if c = 0 then (if zx_in (0 : Int32) 1 = true then (if (h2.2 52 0 (0 : Int32).toNatClampNeg) = (b.toInt64) then K h2 else (some false)) else none) else K h2) else (some false)) = some true
  rw [if_pos e3]
  by_cases c0 : c = 0
  · rw [if_pos c0, if_pos (by decide), if_pos (show h2.2 52 0 (0 : Int32).toNatClampNeg = b.toInt64 from e4 c0)]; exact hK h2 e5
  · rw [if_neg c0]; exact hK h2 e5
theorem zl_J {X : Option (Int32 × zx_H)} {Y : zx_H → Option (Int64 × zx_H)} {K : zx_H → Option Bool} (T : zd_turnJ zq_Q X Y) (hK : ∀ h2, zd_S zq_Q h2 → K h2 = some true) : (X.bind (fun r1 => (Y r1.2).bind (fun r2 => (zs_Ref_thrown r2.2).bind (fun r3 => (if r3 = r1.1 then (if r1.1 = 0 then (if zx_in (0 : Int32) 1 = true then (if (r2.2.2 52 0 (0 : Int32).toNatClampNeg) = r2.1 then K r2.2 else (some false)) else none) else K r2.2) else (some false)))))) = some true := by
  obtain ⟨c, h1, b, h2, e1, e2, e3, e4, e5⟩ := T
  rw [e1]
  show (Y h1).bind _ = _
  rw [e2]
  show (if h2.1 24 0 0 = c then (if c = 0 then (if zx_in (0 : Int32) 1 = true then (if (h2.2 52 0 (0 : Int32).toNatClampNeg) = b then K h2 else (some false)) else none) else K h2) else (some false)) = some true
  rw [if_pos e3]
  by_cases c0 : c = 0
  · rw [if_pos c0, if_pos (by decide), if_pos (show h2.2 52 0 (0 : Int32).toNatClampNeg = b from e4 c0)]; exact hK h2 e5
  · rw [if_neg c0]; exact hK h2 e5
theorem zl_U {X : Option (Int32 × zx_H)} {Y : zx_H → Option zx_H} {K : zx_H → Option Bool} (T : zd_turnU zq_Q X Y) (hK : ∀ h2, zd_S zq_Q h2 → K h2 = some true) : (X.bind (fun r1 => (Y r1.2).bind (fun r2 => (zs_Ref_thrown r2).bind (fun r3 => (if r3 = r1.1 then K r2 else (some false)))))) = some true := by
  obtain ⟨c, h1, h2, e1, e2, e3, e5⟩ := T
  rw [e1]
  show (Y h1).bind _ = _
  rw [e2]
  show (if h2.1 24 0 0 = c then K h2 else (some false)) = some true
  rw [if_pos e3]; exact hK h2 e5
theorem zl_V {X : Option Int32} {Y : Option (Int32 × zx_H)} {K : zx_H → Option Bool} (T : zd_turnV zq_Q X Y) (hK : ∀ h2, zd_S zq_Q h2 → K h2 = some true) : (X.bind (fun r1 => Y.bind (fun r2 => (if r1 = r2.1 then K r2.2 else (some false))))) = some true := by
  obtain ⟨v, h2, e1, e2, e5⟩ := T
  rw [e1, e2]
  show (if v = v then K h2 else (some false)) = some true
  rw [if_pos rfl]; exact hK h2 e5
theorem zl_B {X : Option (Bool × zx_H)} {Y : zx_H → Option (Bool × zx_H)} {K : zx_H → Option Bool} (T : zd_turnB zq_Q X Y) (hK : ∀ h2, zd_S zq_Q h2 → K h2 = some true) : (X.bind (fun r1 => (Y r1.2).bind (fun r2 => (if (zx_b r1.1) = (zx_b r2.1) then K r2.2 else (some false))))) = some true := by
  obtain ⟨v, h1, h2, e1, e2, e5⟩ := T
  rw [e1]
  show (Y h1).bind _ = _
  rw [e2]
  show (if zx_b v = zx_b v then K h2 else (some false)) = some true
  rw [if_pos rfl]; exact hK h2 e5
theorem zl_miss {α : Type} {x k : Int32} {A : Option α} {r : List (Int32 × Option α)} {D : Option α} (h : ¬ x = k) : zx_chain x ((k, A) :: r) D = zx_chain x r D := if_neg h
theorem zl_hit {α : Type} {x k : Int32} {A : Option α} {r : List (Int32 × Option α)} {D : Option α} (h : x = k) : zx_chain x ((k, A) :: r) D = A := if_pos h
theorem zl_and (x : Int32) : ∃ k, k < 16 ∧ x &&& 15 = nI k := by
  refine ⟨((x &&& 15).toBitVec).toNat, ?_, ?_⟩
  · have : ((x &&& 15).toBitVec) = x.toBitVec &&& 15#32 := rfl
    rw [this, BitVec.toNat_and]
    exact Nat.lt_of_le_of_lt Nat.and_le_right (by decide)
  · generalize hy : x &&& 15 = y
    have hlt : y.toBitVec.toNat < 2 ^ 32 := y.toBitVec.isLt
    apply Int32.toBitVec_inj.mp
    show y.toBitVec = (nI y.toBitVec.toNat).toBitVec
    unfold nI
    simp
theorem zl_short {L : Nat} (h : L < 6) {p : Nat} (hp : p < 2147483648) : nI L - (6 : Int32) < nI p := by
  have e : ∀ L, L < 6 → (nI L - (6 : Int32)).toInt < 0 := by decide
  rw [Int32.lt_iff_toInt_lt, nI_toInt hp]
  have := e L h
  omega
theorem zl_loop {L : Nat} {xs : Nat → Int32} (hL : L ≤ 384) : ∀ (d p F c : Nat) (h : zx_H), L < p + 6 * (d + 1) → d < F → 6 * c ≤ p → p < L + 6 → zd_S zq_Q h → zx_loop (fun _ _ _ => none) (zs_Law_law_L23_body L xs) F (nI p) h c = some true := by
  intro d
  induction d with
  | zero =>
    intro p F c h hp hF hc hpL S
    obtain ⟨F, rfl⟩ : ∃ E, F = E + 1 := ⟨F - 1, by omega⟩
    show zs_Law_law_L23_body L xs _ (nI p) h c = _
    unfold zs_Law_law_L23_body
    rw [if_pos (show c < 100 by omega), if_pos ?_]
    by_cases h6 : L < 6
    · exact zl_short h6 (by omega)
    · rw [show nI L - (6 : Int32) = nI (L - 6) from by simp (disch := omega) only [↓zd_bnd, ↓zy_bm, if_true, if_false, ite_true, ite_false, ↓reduceIte, Bool.false_eq_true, Bool.true_eq_false, eq_self, true_and, and_true, false_and, and_false, reduceCtorEq, decide_true, decide_false, not_true_eq_false, not_false_eq_true, ze_ltT, ze_ltF, ze_leT, ze_leF, ze_eqT, ze_eqF, ze_mlt, ze_ltm, ze_mle, ze_lem, ze_meq, ze_eqm, ze_mm, ze_mltm, ze_inT, ze_inF, ze_inM, ze_cl, ze_fin, ze_decT, ze_decF, Nat.reduceSub, Nat.reduceMul, nI_add, Nat.add_sub_cancel, Nat.add_assoc, Nat.reduceAdd, ze_r8, ze_r24, ze_r40, ze_r400, ze_l8, ze_l16, ze_l24, ze_l40, ze_sub, ze_am1, ze_es, ze_en, ze_i64, ze_m64, ze_64i, ze_64m, ze_LltT, ze_LltF, ze_LleT, ze_LleF, ze_LeqT, ze_LeqF, ze_Lmlt, ze_Lltm, ze_Lmle, ze_Llem, ze_Lmeq, ze_Leqm, ze_Lmm, lN_add, ze_ch, ze_chd, ze_bt, ze_bf, ze_n0, ze_n1, ze_n2, ze_n3, ze_n4, ze_n5, ze_n6, ze_n7, ze_n8, ze_n9, ze_n10, ze_n11, ze_n12, ze_n13, ze_n14, ze_n15, ze_n16, ze_n17, ze_n18, ze_n19, ze_n20, ze_n21, ze_n22, ze_n23, ze_n24, ze_n25, ze_n26, ze_n27, ze_n28, ze_n29, ze_n30, ze_n31, ze_n32, ze_n33, ze_n34, ze_n35, ze_n36, ze_n37, ze_n38, ze_n39, ze_n40, ze_n48, ze_n63, ze_n64, ze_n65, ze_n80, ze_n100, ze_n128, ze_n200, ze_n255, ze_n300, ze_n320, ze_n384, ze_n400, ze_n512, ze_n1023, ze_n1600, ze_n6400, ze_n9600, ze_n32768, ze_n65535, ze_n65536, ze_n802, ze_n8191, ze_L0, ze_L1, ze_L2, ze_L3, ze_L4, ze_L5, ze_L6, ze_L7, ze_L8, ze_L9, ze_L10, ze_L15, ze_L16, ze_L24, ze_L40, ze_L48, ze_L63, ze_L64, ze_L127, ze_L255, ze_L400, ze_L1024, ze_L2047, ze_L65535]]
      exact of_eq_true (by simp (disch := omega) only [↓zd_bnd, ↓zy_bm, if_true, if_false, ite_true, ite_false, ↓reduceIte, Bool.false_eq_true, Bool.true_eq_false, eq_self, true_and, and_true, false_and, and_false, reduceCtorEq, decide_true, decide_false, not_true_eq_false, not_false_eq_true, ze_ltT, ze_ltF, ze_leT, ze_leF, ze_eqT, ze_eqF, ze_mlt, ze_ltm, ze_mle, ze_lem, ze_meq, ze_eqm, ze_mm, ze_mltm, ze_inT, ze_inF, ze_inM, ze_cl, ze_fin, ze_decT, ze_decF, Nat.reduceSub, Nat.reduceMul, nI_add, Nat.add_sub_cancel, Nat.add_assoc, Nat.reduceAdd, ze_r8, ze_r24, ze_r40, ze_r400, ze_l8, ze_l16, ze_l24, ze_l40, ze_sub, ze_am1, ze_es, ze_en, ze_i64, ze_m64, ze_64i, ze_64m, ze_LltT, ze_LltF, ze_LleT, ze_LleF, ze_LeqT, ze_LeqF, ze_Lmlt, ze_Lltm, ze_Lmle, ze_Llem, ze_Lmeq, ze_Leqm, ze_Lmm, lN_add, ze_ch, ze_chd, ze_bt, ze_bf, ze_n0, ze_n1, ze_n2, ze_n3, ze_n4, ze_n5, ze_n6, ze_n7, ze_n8, ze_n9, ze_n10, ze_n11, ze_n12, ze_n13, ze_n14, ze_n15, ze_n16, ze_n17, ze_n18, ze_n19, ze_n20, ze_n21, ze_n22, ze_n23, ze_n24, ze_n25, ze_n26, ze_n27, ze_n28, ze_n29, ze_n30, ze_n31, ze_n32, ze_n33, ze_n34, ze_n35, ze_n36, ze_n37, ze_n38, ze_n39, ze_n40, ze_n48, ze_n63, ze_n64, ze_n65, ze_n80, ze_n100, ze_n128, ze_n200, ze_n255, ze_n300, ze_n320, ze_n384, ze_n400, ze_n512, ze_n1023, ze_n1600, ze_n6400, ze_n9600, ze_n32768, ze_n65535, ze_n65536, ze_n802, ze_n8191, ze_L0, ze_L1, ze_L2, ze_L3, ze_L4, ze_L5, ze_L6, ze_L7, ze_L8, ze_L9, ze_L10, ze_L15, ze_L16, ze_L24, ze_L40, ze_L48, ze_L63, ze_L64, ze_L127, ze_L255, ze_L400, ze_L1024, ze_L2047, ze_L65535])
  | succ d ih =>
    intro p F c h hp hF hc hpL S
    obtain ⟨F, rfl⟩ : ∃ E, F = E + 1 := ⟨F - 1, by omega⟩
    show zs_Law_law_L23_body L xs (zx_loop (fun _ _ _ => none) (zs_Law_law_L23_body L xs) F) (nI p) h c = _
    by_cases hend : L < p + 6
    · unfold zs_Law_law_L23_body
      rw [if_pos (show c < 100 by omega), if_pos ?_]
      by_cases h6 : L < 6
      · exact zl_short h6 (by omega)
      · rw [show nI L - (6 : Int32) = nI (L - 6) from by simp (disch := omega) only [↓zd_bnd, ↓zy_bm, if_true, if_false, ite_true, ite_false, ↓reduceIte, Bool.false_eq_true, Bool.true_eq_false, eq_self, true_and, and_true, false_and, and_false, reduceCtorEq, decide_true, decide_false, not_true_eq_false, not_false_eq_true, ze_ltT, ze_ltF, ze_leT, ze_leF, ze_eqT, ze_eqF, ze_mlt, ze_ltm, ze_mle, ze_lem, ze_meq, ze_eqm, ze_mm, ze_mltm, ze_inT, ze_inF, ze_inM, ze_cl, ze_fin, ze_decT, ze_decF, Nat.reduceSub, Nat.reduceMul, nI_add, Nat.add_sub_cancel, Nat.add_assoc, Nat.reduceAdd, ze_r8, ze_r24, ze_r40, ze_r400, ze_l8, ze_l16, ze_l24, ze_l40, ze_sub, ze_am1, ze_es, ze_en, ze_i64, ze_m64, ze_64i, ze_64m, ze_LltT, ze_LltF, ze_LleT, ze_LleF, ze_LeqT, ze_LeqF, ze_Lmlt, ze_Lltm, ze_Lmle, ze_Llem, ze_Lmeq, ze_Leqm, ze_Lmm, lN_add, ze_ch, ze_chd, ze_bt, ze_bf, ze_n0, ze_n1, ze_n2, ze_n3, ze_n4, ze_n5, ze_n6, ze_n7, ze_n8, ze_n9, ze_n10, ze_n11, ze_n12, ze_n13, ze_n14, ze_n15, ze_n16, ze_n17, ze_n18, ze_n19, ze_n20, ze_n21, ze_n22, ze_n23, ze_n24, ze_n25, ze_n26, ze_n27, ze_n28, ze_n29, ze_n30, ze_n31, ze_n32, ze_n33, ze_n34, ze_n35, ze_n36, ze_n37, ze_n38, ze_n39, ze_n40, ze_n48, ze_n63, ze_n64, ze_n65, ze_n80, ze_n100, ze_n128, ze_n200, ze_n255, ze_n300, ze_n320, ze_n384, ze_n400, ze_n512, ze_n1023, ze_n1600, ze_n6400, ze_n9600, ze_n32768, ze_n65535, ze_n65536, ze_n802, ze_n8191, ze_L0, ze_L1, ze_L2, ze_L3, ze_L4, ze_L5, ze_L6, ze_L7, ze_L8, ze_L9, ze_L10, ze_L15, ze_L16, ze_L24, ze_L40, ze_L48, ze_L63, ze_L64, ze_L127, ze_L255, ze_L400, ze_L1024, ze_L2047, ze_L65535]]
        exact of_eq_true (by simp (disch := omega) only [↓zd_bnd, ↓zy_bm, if_true, if_false, ite_true, ite_false, ↓reduceIte, Bool.false_eq_true, Bool.true_eq_false, eq_self, true_and, and_true, false_and, and_false, reduceCtorEq, decide_true, decide_false, not_true_eq_false, not_false_eq_true, ze_ltT, ze_ltF, ze_leT, ze_leF, ze_eqT, ze_eqF, ze_mlt, ze_ltm, ze_mle, ze_lem, ze_meq, ze_eqm, ze_mm, ze_mltm, ze_inT, ze_inF, ze_inM, ze_cl, ze_fin, ze_decT, ze_decF, Nat.reduceSub, Nat.reduceMul, nI_add, Nat.add_sub_cancel, Nat.add_assoc, Nat.reduceAdd, ze_r8, ze_r24, ze_r40, ze_r400, ze_l8, ze_l16, ze_l24, ze_l40, ze_sub, ze_am1, ze_es, ze_en, ze_i64, ze_m64, ze_64i, ze_64m, ze_LltT, ze_LltF, ze_LleT, ze_LleF, ze_LeqT, ze_LeqF, ze_Lmlt, ze_Lltm, ze_Lmle, ze_Llem, ze_Lmeq, ze_Leqm, ze_Lmm, lN_add, ze_ch, ze_chd, ze_bt, ze_bf, ze_n0, ze_n1, ze_n2, ze_n3, ze_n4, ze_n5, ze_n6, ze_n7, ze_n8, ze_n9, ze_n10, ze_n11, ze_n12, ze_n13, ze_n14, ze_n15, ze_n16, ze_n17, ze_n18, ze_n19, ze_n20, ze_n21, ze_n22, ze_n23, ze_n24, ze_n25, ze_n26, ze_n27, ze_n28, ze_n29, ze_n30, ze_n31, ze_n32, ze_n33, ze_n34, ze_n35, ze_n36, ze_n37, ze_n38, ze_n39, ze_n40, ze_n48, ze_n63, ze_n64, ze_n65, ze_n80, ze_n100, ze_n128, ze_n200, ze_n255, ze_n300, ze_n320, ze_n384, ze_n400, ze_n512, ze_n1023, ze_n1600, ze_n6400, ze_n9600, ze_n32768, ze_n65535, ze_n65536, ze_n802, ze_n8191, ze_L0, ze_L1, ze_L2, ze_L3, ze_L4, ze_L5, ze_L6, ze_L7, ze_L8, ze_L9, ze_L10, ze_L15, ze_L16, ze_L24, ze_L40, ze_L48, ze_L63, ze_L64, ze_L127, ze_L255, ze_L400, ze_L1024, ze_L2047, ze_L65535])
    have goK : ∀ c2, 6 * c2 ≤ p + 6 → ∀ h2, zd_S zq_Q h2 → zs_Law_law_J1138 L xs (zx_loop (fun _ _ _ => none) (zs_Law_law_L23_body L xs) F) (nI p) h2 c2 = some true := by
      intro c2 hc2 h2 S2
      have e6 : nI p + (6 : Int32) = nI (p + 6) := by simp (disch := omega) only [↓zd_bnd, ↓zy_bm, if_true, if_false, ite_true, ite_false, ↓reduceIte, Bool.false_eq_true, Bool.true_eq_false, eq_self, true_and, and_true, false_and, and_false, reduceCtorEq, decide_true, decide_false, not_true_eq_false, not_false_eq_true, ze_ltT, ze_ltF, ze_leT, ze_leF, ze_eqT, ze_eqF, ze_mlt, ze_ltm, ze_mle, ze_lem, ze_meq, ze_eqm, ze_mm, ze_mltm, ze_inT, ze_inF, ze_inM, ze_cl, ze_fin, ze_decT, ze_decF, Nat.reduceSub, Nat.reduceMul, nI_add, Nat.add_sub_cancel, Nat.add_assoc, Nat.reduceAdd, ze_r8, ze_r24, ze_r40, ze_r400, ze_l8, ze_l16, ze_l24, ze_l40, ze_sub, ze_am1, ze_es, ze_en, ze_i64, ze_m64, ze_64i, ze_64m, ze_LltT, ze_LltF, ze_LleT, ze_LleF, ze_LeqT, ze_LeqF, ze_Lmlt, ze_Lltm, ze_Lmle, ze_Llem, ze_Lmeq, ze_Leqm, ze_Lmm, lN_add, ze_ch, ze_chd, ze_bt, ze_bf, ze_n0, ze_n1, ze_n2, ze_n3, ze_n4, ze_n5, ze_n6, ze_n7, ze_n8, ze_n9, ze_n10, ze_n11, ze_n12, ze_n13, ze_n14, ze_n15, ze_n16, ze_n17, ze_n18, ze_n19, ze_n20, ze_n21, ze_n22, ze_n23, ze_n24, ze_n25, ze_n26, ze_n27, ze_n28, ze_n29, ze_n30, ze_n31, ze_n32, ze_n33, ze_n34, ze_n35, ze_n36, ze_n37, ze_n38, ze_n39, ze_n40, ze_n48, ze_n63, ze_n64, ze_n65, ze_n80, ze_n100, ze_n128, ze_n200, ze_n255, ze_n300, ze_n320, ze_n384, ze_n400, ze_n512, ze_n1023, ze_n1600, ze_n6400, ze_n9600, ze_n32768, ze_n65535, ze_n65536, ze_n802, ze_n8191, ze_L0, ze_L1, ze_L2, ze_L3, ze_L4, ze_L5, ze_L6, ze_L7, ze_L8, ze_L9, ze_L10, ze_L15, ze_L16, ze_L24, ze_L40, ze_L48, ze_L63, ze_L64, ze_L127, ze_L255, ze_L400, ze_L1024, ze_L2047, ze_L65535]
      unfold zs_Law_law_J1138
      rw [e6]
      exact ih (p + 6) F c2 h2 (by omega) (by omega) hc2 (by omega) S2
    generalize zx_loop (fun _ _ _ => none) (zs_Law_law_L23_body L xs) F = kk at goK ⊢
    have nx : ¬ (nI L - (6 : Int32) < nI p) := by
      rw [show nI L - (6 : Int32) = nI (L - 6) from by simp (disch := omega) only [↓zd_bnd, ↓zy_bm, if_true, if_false, ite_true, ite_false, ↓reduceIte, Bool.false_eq_true, Bool.true_eq_false, eq_self, true_and, and_true, false_and, and_false, reduceCtorEq, decide_true, decide_false, not_true_eq_false, not_false_eq_true, ze_ltT, ze_ltF, ze_leT, ze_leF, ze_eqT, ze_eqF, ze_mlt, ze_ltm, ze_mle, ze_lem, ze_meq, ze_eqm, ze_mm, ze_mltm, ze_inT, ze_inF, ze_inM, ze_cl, ze_fin, ze_decT, ze_decF, Nat.reduceSub, Nat.reduceMul, nI_add, Nat.add_sub_cancel, Nat.add_assoc, Nat.reduceAdd, ze_r8, ze_r24, ze_r40, ze_r400, ze_l8, ze_l16, ze_l24, ze_l40, ze_sub, ze_am1, ze_es, ze_en, ze_i64, ze_m64, ze_64i, ze_64m, ze_LltT, ze_LltF, ze_LleT, ze_LleF, ze_LeqT, ze_LeqF, ze_Lmlt, ze_Lltm, ze_Lmle, ze_Llem, ze_Lmeq, ze_Leqm, ze_Lmm, lN_add, ze_ch, ze_chd, ze_bt, ze_bf, ze_n0, ze_n1, ze_n2, ze_n3, ze_n4, ze_n5, ze_n6, ze_n7, ze_n8, ze_n9, ze_n10, ze_n11, ze_n12, ze_n13, ze_n14, ze_n15, ze_n16, ze_n17, ze_n18, ze_n19, ze_n20, ze_n21, ze_n22, ze_n23, ze_n24, ze_n25, ze_n26, ze_n27, ze_n28, ze_n29, ze_n30, ze_n31, ze_n32, ze_n33, ze_n34, ze_n35, ze_n36, ze_n37, ze_n38, ze_n39, ze_n40, ze_n48, ze_n63, ze_n64, ze_n65, ze_n80, ze_n100, ze_n128, ze_n200, ze_n255, ze_n300, ze_n320, ze_n384, ze_n400, ze_n512, ze_n1023, ze_n1600, ze_n6400, ze_n9600, ze_n32768, ze_n65535, ze_n65536, ze_n802, ze_n8191, ze_L0, ze_L1, ze_L2, ze_L3, ze_L4, ze_L5, ze_L6, ze_L7, ze_L8, ze_L9, ze_L10, ze_L15, ze_L16, ze_L24, ze_L40, ze_L48, ze_L63, ze_L64, ze_L127, ze_L255, ze_L400, ze_L1024, ze_L2047, ze_L65535]]
      exact of_eq_false (by simp (disch := omega) only [↓zd_bnd, ↓zy_bm, if_true, if_false, ite_true, ite_false, ↓reduceIte, Bool.false_eq_true, Bool.true_eq_false, eq_self, true_and, and_true, false_and, and_false, reduceCtorEq, decide_true, decide_false, not_true_eq_false, not_false_eq_true, ze_ltT, ze_ltF, ze_leT, ze_leF, ze_eqT, ze_eqF, ze_mlt, ze_ltm, ze_mle, ze_lem, ze_meq, ze_eqm, ze_mm, ze_mltm, ze_inT, ze_inF, ze_inM, ze_cl, ze_fin, ze_decT, ze_decF, Nat.reduceSub, Nat.reduceMul, nI_add, Nat.add_sub_cancel, Nat.add_assoc, Nat.reduceAdd, ze_r8, ze_r24, ze_r40, ze_r400, ze_l8, ze_l16, ze_l24, ze_l40, ze_sub, ze_am1, ze_es, ze_en, ze_i64, ze_m64, ze_64i, ze_64m, ze_LltT, ze_LltF, ze_LleT, ze_LleF, ze_LeqT, ze_LeqF, ze_Lmlt, ze_Lltm, ze_Lmle, ze_Llem, ze_Lmeq, ze_Leqm, ze_Lmm, lN_add, ze_ch, ze_chd, ze_bt, ze_bf, ze_n0, ze_n1, ze_n2, ze_n3, ze_n4, ze_n5, ze_n6, ze_n7, ze_n8, ze_n9, ze_n10, ze_n11, ze_n12, ze_n13, ze_n14, ze_n15, ze_n16, ze_n17, ze_n18, ze_n19, ze_n20, ze_n21, ze_n22, ze_n23, ze_n24, ze_n25, ze_n26, ze_n27, ze_n28, ze_n29, ze_n30, ze_n31, ze_n32, ze_n33, ze_n34, ze_n35, ze_n36, ze_n37, ze_n38, ze_n39, ze_n40, ze_n48, ze_n63, ze_n64, ze_n65, ze_n80, ze_n100, ze_n128, ze_n200, ze_n255, ze_n300, ze_n320, ze_n384, ze_n400, ze_n512, ze_n1023, ze_n1600, ze_n6400, ze_n9600, ze_n32768, ze_n65535, ze_n65536, ze_n802, ze_n8191, ze_L0, ze_L1, ze_L2, ze_L3, ze_L4, ze_L5, ze_L6, ze_L7, ze_L8, ze_L9, ze_L10, ze_L15, ze_L16, ze_L24, ze_L40, ze_L48, ze_L63, ze_L64, ze_L127, ze_L255, ze_L400, ze_L1024, ze_L2047, ze_L65535])
    have g0 : zx_in (nI p) L = true := by simp (disch := omega) only [↓zd_bnd, ↓zy_bm, if_true, if_false, ite_true, ite_false, ↓reduceIte, Bool.false_eq_true, Bool.true_eq_false, eq_self, true_and, and_true, false_and, and_false, reduceCtorEq, decide_true, decide_false, not_true_eq_false, not_false_eq_true, ze_ltT, ze_ltF, ze_leT, ze_leF, ze_eqT, ze_eqF, ze_mlt, ze_ltm, ze_mle, ze_lem, ze_meq, ze_eqm, ze_mm, ze_mltm, ze_inT, ze_inF, ze_inM, ze_cl, ze_fin, ze_decT, ze_decF, Nat.reduceSub, Nat.reduceMul, nI_add, Nat.add_sub_cancel, Nat.add_assoc, Nat.reduceAdd, ze_r8, ze_r24, ze_r40, ze_r400, ze_l8, ze_l16, ze_l24, ze_l40, ze_sub, ze_am1, ze_es, ze_en, ze_i64, ze_m64, ze_64i, ze_64m, ze_LltT, ze_LltF, ze_LleT, ze_LleF, ze_LeqT, ze_LeqF, ze_Lmlt, ze_Lltm, ze_Lmle, ze_Llem, ze_Lmeq, ze_Leqm, ze_Lmm, lN_add, ze_ch, ze_chd, ze_bt, ze_bf, ze_n0, ze_n1, ze_n2, ze_n3, ze_n4, ze_n5, ze_n6, ze_n7, ze_n8, ze_n9, ze_n10, ze_n11, ze_n12, ze_n13, ze_n14, ze_n15, ze_n16, ze_n17, ze_n18, ze_n19, ze_n20, ze_n21, ze_n22, ze_n23, ze_n24, ze_n25, ze_n26, ze_n27, ze_n28, ze_n29, ze_n30, ze_n31, ze_n32, ze_n33, ze_n34, ze_n35, ze_n36, ze_n37, ze_n38, ze_n39, ze_n40, ze_n48, ze_n63, ze_n64, ze_n65, ze_n80, ze_n100, ze_n128, ze_n200, ze_n255, ze_n300, ze_n320, ze_n384, ze_n400, ze_n512, ze_n1023, ze_n1600, ze_n6400, ze_n9600, ze_n32768, ze_n65535, ze_n65536, ze_n802, ze_n8191, ze_L0, ze_L1, ze_L2, ze_L3, ze_L4, ze_L5, ze_L6, ze_L7, ze_L8, ze_L9, ze_L10, ze_L15, ze_L16, ze_L24, ze_L40, ze_L48, ze_L63, ze_L64, ze_L127, ze_L255, ze_L400, ze_L1024, ze_L2047, ze_L65535]
    have g1 : zx_in (nI p + (1 : Int32)) L = true := by simp (disch := omega) only [↓zd_bnd, ↓zy_bm, if_true, if_false, ite_true, ite_false, ↓reduceIte, Bool.false_eq_true, Bool.true_eq_false, eq_self, true_and, and_true, false_and, and_false, reduceCtorEq, decide_true, decide_false, not_true_eq_false, not_false_eq_true, ze_ltT, ze_ltF, ze_leT, ze_leF, ze_eqT, ze_eqF, ze_mlt, ze_ltm, ze_mle, ze_lem, ze_meq, ze_eqm, ze_mm, ze_mltm, ze_inT, ze_inF, ze_inM, ze_cl, ze_fin, ze_decT, ze_decF, Nat.reduceSub, Nat.reduceMul, nI_add, Nat.add_sub_cancel, Nat.add_assoc, Nat.reduceAdd, ze_r8, ze_r24, ze_r40, ze_r400, ze_l8, ze_l16, ze_l24, ze_l40, ze_sub, ze_am1, ze_es, ze_en, ze_i64, ze_m64, ze_64i, ze_64m, ze_LltT, ze_LltF, ze_LleT, ze_LleF, ze_LeqT, ze_LeqF, ze_Lmlt, ze_Lltm, ze_Lmle, ze_Llem, ze_Lmeq, ze_Leqm, ze_Lmm, lN_add, ze_ch, ze_chd, ze_bt, ze_bf, ze_n0, ze_n1, ze_n2, ze_n3, ze_n4, ze_n5, ze_n6, ze_n7, ze_n8, ze_n9, ze_n10, ze_n11, ze_n12, ze_n13, ze_n14, ze_n15, ze_n16, ze_n17, ze_n18, ze_n19, ze_n20, ze_n21, ze_n22, ze_n23, ze_n24, ze_n25, ze_n26, ze_n27, ze_n28, ze_n29, ze_n30, ze_n31, ze_n32, ze_n33, ze_n34, ze_n35, ze_n36, ze_n37, ze_n38, ze_n39, ze_n40, ze_n48, ze_n63, ze_n64, ze_n65, ze_n80, ze_n100, ze_n128, ze_n200, ze_n255, ze_n300, ze_n320, ze_n384, ze_n400, ze_n512, ze_n1023, ze_n1600, ze_n6400, ze_n9600, ze_n32768, ze_n65535, ze_n65536, ze_n802, ze_n8191, ze_L0, ze_L1, ze_L2, ze_L3, ze_L4, ze_L5, ze_L6, ze_L7, ze_L8, ze_L9, ze_L10, ze_L15, ze_L16, ze_L24, ze_L40, ze_L48, ze_L63, ze_L64, ze_L127, ze_L255, ze_L400, ze_L1024, ze_L2047, ze_L65535]
    have g2 : zx_in (nI p + (2 : Int32)) L = true := by simp (disch := omega) only [↓zd_bnd, ↓zy_bm, if_true, if_false, ite_true, ite_false, ↓reduceIte, Bool.false_eq_true, Bool.true_eq_false, eq_self, true_and, and_true, false_and, and_false, reduceCtorEq, decide_true, decide_false, not_true_eq_false, not_false_eq_true, ze_ltT, ze_ltF, ze_leT, ze_leF, ze_eqT, ze_eqF, ze_mlt, ze_ltm, ze_mle, ze_lem, ze_meq, ze_eqm, ze_mm, ze_mltm, ze_inT, ze_inF, ze_inM, ze_cl, ze_fin, ze_decT, ze_decF, Nat.reduceSub, Nat.reduceMul, nI_add, Nat.add_sub_cancel, Nat.add_assoc, Nat.reduceAdd, ze_r8, ze_r24, ze_r40, ze_r400, ze_l8, ze_l16, ze_l24, ze_l40, ze_sub, ze_am1, ze_es, ze_en, ze_i64, ze_m64, ze_64i, ze_64m, ze_LltT, ze_LltF, ze_LleT, ze_LleF, ze_LeqT, ze_LeqF, ze_Lmlt, ze_Lltm, ze_Lmle, ze_Llem, ze_Lmeq, ze_Leqm, ze_Lmm, lN_add, ze_ch, ze_chd, ze_bt, ze_bf, ze_n0, ze_n1, ze_n2, ze_n3, ze_n4, ze_n5, ze_n6, ze_n7, ze_n8, ze_n9, ze_n10, ze_n11, ze_n12, ze_n13, ze_n14, ze_n15, ze_n16, ze_n17, ze_n18, ze_n19, ze_n20, ze_n21, ze_n22, ze_n23, ze_n24, ze_n25, ze_n26, ze_n27, ze_n28, ze_n29, ze_n30, ze_n31, ze_n32, ze_n33, ze_n34, ze_n35, ze_n36, ze_n37, ze_n38, ze_n39, ze_n40, ze_n48, ze_n63, ze_n64, ze_n65, ze_n80, ze_n100, ze_n128, ze_n200, ze_n255, ze_n300, ze_n320, ze_n384, ze_n400, ze_n512, ze_n1023, ze_n1600, ze_n6400, ze_n9600, ze_n32768, ze_n65535, ze_n65536, ze_n802, ze_n8191, ze_L0, ze_L1, ze_L2, ze_L3, ze_L4, ze_L5, ze_L6, ze_L7, ze_L8, ze_L9, ze_L10, ze_L15, ze_L16, ze_L24, ze_L40, ze_L48, ze_L63, ze_L64, ze_L127, ze_L255, ze_L400, ze_L1024, ze_L2047, ze_L65535]
    have g3 : zx_in (nI p + (3 : Int32)) L = true := by simp (disch := omega) only [↓zd_bnd, ↓zy_bm, if_true, if_false, ite_true, ite_false, ↓reduceIte, Bool.false_eq_true, Bool.true_eq_false, eq_self, true_and, and_true, false_and, and_false, reduceCtorEq, decide_true, decide_false, not_true_eq_false, not_false_eq_true, ze_ltT, ze_ltF, ze_leT, ze_leF, ze_eqT, ze_eqF, ze_mlt, ze_ltm, ze_mle, ze_lem, ze_meq, ze_eqm, ze_mm, ze_mltm, ze_inT, ze_inF, ze_inM, ze_cl, ze_fin, ze_decT, ze_decF, Nat.reduceSub, Nat.reduceMul, nI_add, Nat.add_sub_cancel, Nat.add_assoc, Nat.reduceAdd, ze_r8, ze_r24, ze_r40, ze_r400, ze_l8, ze_l16, ze_l24, ze_l40, ze_sub, ze_am1, ze_es, ze_en, ze_i64, ze_m64, ze_64i, ze_64m, ze_LltT, ze_LltF, ze_LleT, ze_LleF, ze_LeqT, ze_LeqF, ze_Lmlt, ze_Lltm, ze_Lmle, ze_Llem, ze_Lmeq, ze_Leqm, ze_Lmm, lN_add, ze_ch, ze_chd, ze_bt, ze_bf, ze_n0, ze_n1, ze_n2, ze_n3, ze_n4, ze_n5, ze_n6, ze_n7, ze_n8, ze_n9, ze_n10, ze_n11, ze_n12, ze_n13, ze_n14, ze_n15, ze_n16, ze_n17, ze_n18, ze_n19, ze_n20, ze_n21, ze_n22, ze_n23, ze_n24, ze_n25, ze_n26, ze_n27, ze_n28, ze_n29, ze_n30, ze_n31, ze_n32, ze_n33, ze_n34, ze_n35, ze_n36, ze_n37, ze_n38, ze_n39, ze_n40, ze_n48, ze_n63, ze_n64, ze_n65, ze_n80, ze_n100, ze_n128, ze_n200, ze_n255, ze_n300, ze_n320, ze_n384, ze_n400, ze_n512, ze_n1023, ze_n1600, ze_n6400, ze_n9600, ze_n32768, ze_n65535, ze_n65536, ze_n802, ze_n8191, ze_L0, ze_L1, ze_L2, ze_L3, ze_L4, ze_L5, ze_L6, ze_L7, ze_L8, ze_L9, ze_L10, ze_L15, ze_L16, ze_L24, ze_L40, ze_L48, ze_L63, ze_L64, ze_L127, ze_L255, ze_L400, ze_L1024, ze_L2047, ze_L65535]
    have g4 : zx_in (nI p + (4 : Int32)) L = true := by simp (disch := omega) only [↓zd_bnd, ↓zy_bm, if_true, if_false, ite_true, ite_false, ↓reduceIte, Bool.false_eq_true, Bool.true_eq_false, eq_self, true_and, and_true, false_and, and_false, reduceCtorEq, decide_true, decide_false, not_true_eq_false, not_false_eq_true, ze_ltT, ze_ltF, ze_leT, ze_leF, ze_eqT, ze_eqF, ze_mlt, ze_ltm, ze_mle, ze_lem, ze_meq, ze_eqm, ze_mm, ze_mltm, ze_inT, ze_inF, ze_inM, ze_cl, ze_fin, ze_decT, ze_decF, Nat.reduceSub, Nat.reduceMul, nI_add, Nat.add_sub_cancel, Nat.add_assoc, Nat.reduceAdd, ze_r8, ze_r24, ze_r40, ze_r400, ze_l8, ze_l16, ze_l24, ze_l40, ze_sub, ze_am1, ze_es, ze_en, ze_i64, ze_m64, ze_64i, ze_64m, ze_LltT, ze_LltF, ze_LleT, ze_LleF, ze_LeqT, ze_LeqF, ze_Lmlt, ze_Lltm, ze_Lmle, ze_Llem, ze_Lmeq, ze_Leqm, ze_Lmm, lN_add, ze_ch, ze_chd, ze_bt, ze_bf, ze_n0, ze_n1, ze_n2, ze_n3, ze_n4, ze_n5, ze_n6, ze_n7, ze_n8, ze_n9, ze_n10, ze_n11, ze_n12, ze_n13, ze_n14, ze_n15, ze_n16, ze_n17, ze_n18, ze_n19, ze_n20, ze_n21, ze_n22, ze_n23, ze_n24, ze_n25, ze_n26, ze_n27, ze_n28, ze_n29, ze_n30, ze_n31, ze_n32, ze_n33, ze_n34, ze_n35, ze_n36, ze_n37, ze_n38, ze_n39, ze_n40, ze_n48, ze_n63, ze_n64, ze_n65, ze_n80, ze_n100, ze_n128, ze_n200, ze_n255, ze_n300, ze_n320, ze_n384, ze_n400, ze_n512, ze_n1023, ze_n1600, ze_n6400, ze_n9600, ze_n32768, ze_n65535, ze_n65536, ze_n802, ze_n8191, ze_L0, ze_L1, ze_L2, ze_L3, ze_L4, ze_L5, ze_L6, ze_L7, ze_L8, ze_L9, ze_L10, ze_L15, ze_L16, ze_L24, ze_L40, ze_L48, ze_L63, ze_L64, ze_L127, ze_L255, ze_L400, ze_L1024, ze_L2047, ze_L65535]
    have g5 : zx_in (nI p + (5 : Int32)) L = true := by simp (disch := omega) only [↓zd_bnd, ↓zy_bm, if_true, if_false, ite_true, ite_false, ↓reduceIte, Bool.false_eq_true, Bool.true_eq_false, eq_self, true_and, and_true, false_and, and_false, reduceCtorEq, decide_true, decide_false, not_true_eq_false, not_false_eq_true, ze_ltT, ze_ltF, ze_leT, ze_leF, ze_eqT, ze_eqF, ze_mlt, ze_ltm, ze_mle, ze_lem, ze_meq, ze_eqm, ze_mm, ze_mltm, ze_inT, ze_inF, ze_inM, ze_cl, ze_fin, ze_decT, ze_decF, Nat.reduceSub, Nat.reduceMul, nI_add, Nat.add_sub_cancel, Nat.add_assoc, Nat.reduceAdd, ze_r8, ze_r24, ze_r40, ze_r400, ze_l8, ze_l16, ze_l24, ze_l40, ze_sub, ze_am1, ze_es, ze_en, ze_i64, ze_m64, ze_64i, ze_64m, ze_LltT, ze_LltF, ze_LleT, ze_LleF, ze_LeqT, ze_LeqF, ze_Lmlt, ze_Lltm, ze_Lmle, ze_Llem, ze_Lmeq, ze_Leqm, ze_Lmm, lN_add, ze_ch, ze_chd, ze_bt, ze_bf, ze_n0, ze_n1, ze_n2, ze_n3, ze_n4, ze_n5, ze_n6, ze_n7, ze_n8, ze_n9, ze_n10, ze_n11, ze_n12, ze_n13, ze_n14, ze_n15, ze_n16, ze_n17, ze_n18, ze_n19, ze_n20, ze_n21, ze_n22, ze_n23, ze_n24, ze_n25, ze_n26, ze_n27, ze_n28, ze_n29, ze_n30, ze_n31, ze_n32, ze_n33, ze_n34, ze_n35, ze_n36, ze_n37, ze_n38, ze_n39, ze_n40, ze_n48, ze_n63, ze_n64, ze_n65, ze_n80, ze_n100, ze_n128, ze_n200, ze_n255, ze_n300, ze_n320, ze_n384, ze_n400, ze_n512, ze_n1023, ze_n1600, ze_n6400, ze_n9600, ze_n32768, ze_n65535, ze_n65536, ze_n802, ze_n8191, ze_L0, ze_L1, ze_L2, ze_L3, ze_L4, ze_L5, ze_L6, ze_L7, ze_L8, ze_L9, ze_L10, ze_L15, ze_L16, ze_L24, ze_L40, ze_L48, ze_L63, ze_L64, ze_L127, ze_L255, ze_L400, ze_L1024, ze_L2047, ze_L65535]
    obtain ⟨k, hk, ek⟩ := zl_and (xs (nI p).toNatClampNeg)
    unfold zs_Law_law_L23_body
    rw [if_pos (show c < 100 by omega), if_neg nx, if_pos g0, ek]
    by_cases k0 : k = 0
    · subst k0
      refine (zl_hit (by decide)).trans ?_
      simp only [g1, g2, g3, g4, g5, if_true, eq_self, ite_true]
      exact zl_T (K := fun h2 => zs_Law_law_J1138 L xs kk (nI p) h2 (c + 1)) (zo_enumeration zq_Q_ok S _ _) (goK (c + 1) (by omega))
    by_cases k1 : k = 1
    · subst k1
      refine (zl_miss (by decide)).trans ?_
      refine (zl_hit (by decide)).trans ?_
      exact zl_T (K := fun h2 => zs_Law_law_J1138 L xs kk (nI p) h2 (c + 1)) (zo_bean zq_Q_ok S) (goK (c + 1) (by omega))
    by_cases k2 : k = 2
    · subst k2
      refine (zl_miss (by decide)).trans ?_
      refine (zl_miss (by decide)).trans ?_
      refine (zl_hit (by decide)).trans ?_
      simp only [g1, g2, g3, g4, g5, if_true, eq_self, ite_true]
      exact zl_T (K := fun h2 => zs_Law_law_J1138 L xs kk (nI p) h2 (c + 1)) (zo_property zq_Q_ok S _ _ _) (goK (c + 1) (by omega))
    by_cases k3 : k = 3
    · subst k3
      refine (zl_miss (by decide)).trans ?_
      refine (zl_miss (by decide)).trans ?_
      refine (zl_miss (by decide)).trans ?_
      refine (zl_hit (by decide)).trans ?_
      simp only [g1, g2, g3, g4, g5, if_true, eq_self, ite_true]
      exact zl_T (K := fun h2 => zs_Law_law_J1138 L xs kk (nI p) h2 (c + 1)) (zo_list zq_Q_ok S _) (goK (c + 1) (by omega))
    by_cases k4 : k = 4
    · subst k4
      refine (zl_miss (by decide)).trans ?_
      refine (zl_miss (by decide)).trans ?_
      refine (zl_miss (by decide)).trans ?_
      refine (zl_miss (by decide)).trans ?_
      refine (zl_hit (by decide)).trans ?_
      simp only [g1, g2, g3, g4, g5, if_true, eq_self, ite_true]
      exact zl_T (K := fun h2 => zs_Law_law_J1138 L xs kk (nI p) h2 (c + 1)) (zo_method zq_Q_ok S _ _) (goK (c + 1) (by omega))
    by_cases k5 : k = 5
    · subst k5
      refine (zl_miss (by decide)).trans ?_
      refine (zl_miss (by decide)).trans ?_
      refine (zl_miss (by decide)).trans ?_
      refine (zl_miss (by decide)).trans ?_
      refine (zl_miss (by decide)).trans ?_
      refine (zl_hit (by decide)).trans ?_
      simp only [g1, g2, g3, g4, g5, if_true, eq_self, ite_true]
      exact zl_T (K := fun h2 => zs_Law_law_J1138 L xs kk (nI p) h2 (c + 1)) (zo_function zq_Q_ok S _ _ _ _) (goK (c + 1) (by omega))
    by_cases k6 : k = 6
    · subst k6
      refine (zl_miss (by decide)).trans ?_
      refine (zl_miss (by decide)).trans ?_
      refine (zl_miss (by decide)).trans ?_
      refine (zl_miss (by decide)).trans ?_
      refine (zl_miss (by decide)).trans ?_
      refine (zl_miss (by decide)).trans ?_
      refine (zl_hit (by decide)).trans ?_
      simp only [g1, g2, g3, g4, g5, if_true, eq_self, ite_true]
      exact zl_U (K := fun h2 => zs_Law_law_J1138 L xs kk (nI p) h2 (c + 1)) (zo_rule zq_Q_ok S _ _ _ _) (goK (c + 1) (by omega))
    by_cases k7 : k = 7
    · subst k7
      refine (zl_miss (by decide)).trans ?_
      refine (zl_miss (by decide)).trans ?_
      refine (zl_miss (by decide)).trans ?_
      refine (zl_miss (by decide)).trans ?_
      refine (zl_miss (by decide)).trans ?_
      refine (zl_miss (by decide)).trans ?_
      refine (zl_miss (by decide)).trans ?_
      refine (zl_hit (by decide)).trans ?_
      exact zl_T (K := fun h2 => zs_Law_law_J1138 L xs kk (nI p) h2 (c + 1)) (zo_build S) (goK (c + 1) (by omega))
    by_cases k8 : k = 8
    · subst k8
      refine (zl_miss (by decide)).trans ?_
      refine (zl_miss (by decide)).trans ?_
      refine (zl_miss (by decide)).trans ?_
      refine (zl_miss (by decide)).trans ?_
      refine (zl_miss (by decide)).trans ?_
      refine (zl_miss (by decide)).trans ?_
      refine (zl_miss (by decide)).trans ?_
      refine (zl_miss (by decide)).trans ?_
      refine (zl_hit (by decide)).trans ?_
      simp only [g1, g2, g3, g4, g5, if_true, eq_self, ite_true]
      exact zl_V (K := fun h2 => zs_Law_law_J1138 L xs kk (nI p) h2 c) (zo_diagnosis zq_Q_ok S _) (goK c (by omega))
    by_cases k9 : k = 9
    · subst k9
      refine (zl_miss (by decide)).trans ?_
      refine (zl_miss (by decide)).trans ?_
      refine (zl_miss (by decide)).trans ?_
      refine (zl_miss (by decide)).trans ?_
      refine (zl_miss (by decide)).trans ?_
      refine (zl_miss (by decide)).trans ?_
      refine (zl_miss (by decide)).trans ?_
      refine (zl_miss (by decide)).trans ?_
      refine (zl_miss (by decide)).trans ?_
      refine (zl_hit (by decide)).trans ?_
      simp only [g1, g2, g3, g4, g5, if_true, eq_self, ite_true]
      exact zl_T (K := fun h2 => zs_Law_law_J1138 L xs kk (nI p) h2 (c + 1)) (zo_make zq_Q_ok zq_Q_ok3 S _ _) (goK (c + 1) (by omega))
    by_cases k10 : k = 10
    · subst k10
      refine (zl_miss (by decide)).trans ?_
      refine (zl_miss (by decide)).trans ?_
      refine (zl_miss (by decide)).trans ?_
      refine (zl_miss (by decide)).trans ?_
      refine (zl_miss (by decide)).trans ?_
      refine (zl_miss (by decide)).trans ?_
      refine (zl_miss (by decide)).trans ?_
      refine (zl_miss (by decide)).trans ?_
      refine (zl_miss (by decide)).trans ?_
      refine (zl_miss (by decide)).trans ?_
      refine (zl_hit (by decide)).trans ?_
      simp only [g1, g2, g3, g4, g5, if_true, eq_self, ite_true]
      exact zl_B (K := fun h2 => zs_Law_law_J1138 L xs kk (nI p) h2 c) (zo_put zq_Q_ok zq_Q_ok3 S _ _ _) (goK c (by omega))
    by_cases k11 : k = 11
    · subst k11
      refine (zl_miss (by decide)).trans ?_
      refine (zl_miss (by decide)).trans ?_
      refine (zl_miss (by decide)).trans ?_
      refine (zl_miss (by decide)).trans ?_
      refine (zl_miss (by decide)).trans ?_
      refine (zl_miss (by decide)).trans ?_
      refine (zl_miss (by decide)).trans ?_
      refine (zl_miss (by decide)).trans ?_
      refine (zl_miss (by decide)).trans ?_
      refine (zl_miss (by decide)).trans ?_
      refine (zl_miss (by decide)).trans ?_
      refine (zl_hit (by decide)).trans ?_
      simp only [g1, g2, g3, g4, g5, if_true, eq_self, ite_true]
      exact zl_T (K := fun h2 => zs_Law_law_J1138 L xs kk (nI p) h2 (c + 1)) (zo_map S _ _) (goK (c + 1) (by omega))
    by_cases k12 : k = 12
    · subst k12
      refine (zl_miss (by decide)).trans ?_
      refine (zl_miss (by decide)).trans ?_
      refine (zl_miss (by decide)).trans ?_
      refine (zl_miss (by decide)).trans ?_
      refine (zl_miss (by decide)).trans ?_
      refine (zl_miss (by decide)).trans ?_
      refine (zl_miss (by decide)).trans ?_
      refine (zl_miss (by decide)).trans ?_
      refine (zl_miss (by decide)).trans ?_
      refine (zl_miss (by decide)).trans ?_
      refine (zl_miss (by decide)).trans ?_
      refine (zl_miss (by decide)).trans ?_
      refine (zl_hit (by decide)).trans ?_
      simp only [g1, g2, g3, g4, g5, if_true, eq_self, ite_true]
      exact zl_J (K := fun h2 => zs_Law_law_J1138 L xs kk (nI p) h2 (c + 1)) (zo_get zq_Q_ok S _ _) (goK (c + 1) (by omega))
    by_cases k13 : k = 13
    · subst k13
      refine (zl_miss (by decide)).trans ?_
      refine (zl_miss (by decide)).trans ?_
      refine (zl_miss (by decide)).trans ?_
      refine (zl_miss (by decide)).trans ?_
      refine (zl_miss (by decide)).trans ?_
      refine (zl_miss (by decide)).trans ?_
      refine (zl_miss (by decide)).trans ?_
      refine (zl_miss (by decide)).trans ?_
      refine (zl_miss (by decide)).trans ?_
      refine (zl_miss (by decide)).trans ?_
      refine (zl_miss (by decide)).trans ?_
      refine (zl_miss (by decide)).trans ?_
      refine (zl_miss (by decide)).trans ?_
      refine (zl_hit (by decide)).trans ?_
      simp only [g1, g2, g3, g4, g5, if_true, eq_self, ite_true]
      exact zl_T (K := fun h2 => zs_Law_law_J1138 L xs kk (nI p) h2 (c + 1)) (zo_about zq_Q_ok S _ _) (goK (c + 1) (by omega))
    by_cases k14 : k = 14
    · subst k14
      refine (zl_miss (by decide)).trans ?_
      refine (zl_miss (by decide)).trans ?_
      refine (zl_miss (by decide)).trans ?_
      refine (zl_miss (by decide)).trans ?_
      refine (zl_miss (by decide)).trans ?_
      refine (zl_miss (by decide)).trans ?_
      refine (zl_miss (by decide)).trans ?_
      refine (zl_miss (by decide)).trans ?_
      refine (zl_miss (by decide)).trans ?_
      refine (zl_miss (by decide)).trans ?_
      refine (zl_miss (by decide)).trans ?_
      refine (zl_miss (by decide)).trans ?_
      refine (zl_miss (by decide)).trans ?_
      refine (zl_miss (by decide)).trans ?_
      refine (zl_hit (by decide)).trans ?_
      simp only [g1, g2, g3, g4, g5, if_true, eq_self, ite_true]
      exact zl_V (K := fun h2 => zs_Law_law_J1138 L xs kk (nI p) h2 c) (zo_count zq_Q_ok S _) (goK c (by omega))
    have k15 : k = 15 := by omega
    subst k15
    refine (zl_miss (by decide)).trans ?_
    refine (zl_miss (by decide)).trans ?_
    refine (zl_miss (by decide)).trans ?_
    refine (zl_miss (by decide)).trans ?_
    refine (zl_miss (by decide)).trans ?_
    refine (zl_miss (by decide)).trans ?_
    refine (zl_miss (by decide)).trans ?_
    refine (zl_miss (by decide)).trans ?_
    refine (zl_miss (by decide)).trans ?_
    refine (zl_miss (by decide)).trans ?_
    refine (zl_miss (by decide)).trans ?_
    refine (zl_miss (by decide)).trans ?_
    refine (zl_miss (by decide)).trans ?_
    refine (zl_miss (by decide)).trans ?_
    refine (zl_miss (by decide)).trans ?_
    exact goK c (by omega) h S
theorem zl_main {L : Nat} {xs : Nat → Int32} (hL : L ≤ 384) {h : zx_H} (S : zd_S zq_Q h) : zs_Law_law_L23 L xs 0 h 0 = some true :=
  zl_loop hL 100 0 zx_fuel 0 h (by omega) (by unfold zx_fuel; omega) (by omega) (by omega) S
/-- what stands at the beginning -/
def zl_srt (t : Nat) : Nat := if t < 7 then 0 else if t < 14 then 1 else if t = 14 then 2 else 0
def zl_A : zd_A := (fun F i _ => if F = 1 then 15 else if F = 2 then zl_srt i else 0, fun F _ _ => if F = 4 ∨ F = 5 then -nI 1 else nI 0, fun _ _ _ => 0)
theorem zl_ok : zd_ok zl_A := by
  intro q
  match q with
  | 0 => exact ⟨Nat.le_refl _, by decide⟩
  | 1 => exact fun t ht => if_pos ht
  | 2 => exact fun t h1 h2 => (if_neg (by omega)).trans (if_pos h2)
  | 3 => rfl
  | 4 => exact fun t h1 h2 => by have h2 : t < 15 := h2; omega
  | 5 => exact fun _ _ => Nat.zero_le _
  | 6 => exact fun t _ h2 => absurd h2 (Nat.lt_irrefl 0)
  | 7 => exact fun t k _ h2 => absurd h2 (Nat.not_lt_zero k)
  | 8 => exact fun t j k _ h2 => absurd h2 (Nat.not_lt_zero j)
  | 9 => exact fun t k _ h2 => absurd h2 (Nat.not_lt_zero k)
  | 10 =>
    intro t h1 h2
    have h2 : zl_srt t = 5 := h2
    unfold zl_srt at h2
    split at h2
    · omega
    · split at h2
      · omega
      · split at h2 <;> omega
  | 11 => exact Nat.zero_le _
  | 12 => exact fun m h => absurd h (Nat.not_lt_zero m)
  | 13 => exact fun _ _ => Nat.zero_le _
  | 14 => exact fun _ _ _ => rfl
  | 15 => exact fun m r h => absurd h (Nat.not_lt_zero m)
  | 16 => exact Nat.zero_le _
  | 17 => exact fun f h => absurd h (Nat.not_lt_zero f)
  | 18 => exact fun f h => absurd h (Nat.not_lt_zero f)
  | 19 => exact Nat.zero_le _
  | 20 => exact fun f h => absurd h (Nat.not_lt_zero f)
  | 21 => exact fun f h => absurd h (Nat.not_lt_zero f)
  | 22 => exact fun f h => absurd h (Nat.not_lt_zero f)
  | 23 => exact fun f h => absurd h (Nat.not_lt_zero f)
  | 24 => exact fun f h => absurd h (Nat.not_lt_zero f)
  | 25 => exact Nat.zero_le _
  | _ + 26 => exact trivial
theorem zl_first {h : zx_H} (a0 : h.1 0 0 5 = nI 0) (a1 : h.1 1 0 5 = nI 15) (a4 : ∀ t, h.1 4 0 t = nI 0) (a7 : h.1 11 0 2 = nI 0) (a8 : h.1 11 0 3 = nI 0) (a11 : ∀ m, h.1 54 m 2 = nI 0) (a19 : h.1 16 0 4 = nI 0) (a20 : h.1 16 0 5 = -nI 1) (a21 : h.1 16 0 6 = -nI 1) (a22 : h.1 7 0 4 = nI 0) (b0 : h.1 24 0 1 = nI 0) (b1 : h.1 24 0 2 = nI 15) (b2 : ∀ t, t < 15 → h.1 25 0 t = nI (zl_srt t)) (b3 : ∀ t, h.1 26 0 t = nI 0) (b7 : h.1 24 0 8 = nI 0) (b10 : ∀ m, h.1 32 0 m = nI 0) (b14 : h.1 24 0 15 = nI 0) (b19 : h.1 24 0 20 = nI 0) (b20 : h.1 24 0 21 = -nI 1) (b21 : h.1 24 0 22 = -nI 1) (b22 : h.1 24 0 23 = nI 0) : zd_S zq_Q h := by
  refine ⟨zl_A, ?_, ?_, zl_ok, fun e => absurd (show (0 : Nat) = 1 from e) (by decide)⟩
  · intro q
    match q with
    | 0 => exact a0
    | 1 => exact a1
    | 2 => exact fun t h1 h2 => by have h2 : t < 15 := h2; omega
    | 3 =>
      intro t h1 h2
      have h2 : zl_srt t = 5 := h2
      unfold zl_srt at h2
      split at h2
      · omega
      · split at h2
        · omega
        · split at h2 <;> omega
    | 4 => exact fun t _ => a4 t
    | 5 => exact fun t k _ h2 => absurd h2 (Nat.not_lt_zero k)
    | 6 => exact fun t k _ h2 => absurd h2 (Nat.not_lt_zero k)
    | 7 => exact a7
    | 8 => exact a8
    | 9 => exact fun m h => absurd h (Nat.not_lt_zero m)
    | 10 => exact fun m h => absurd h (Nat.not_lt_zero m)
    | 11 => exact fun m _ => a11 m
    | 12 => exact fun m r h => absurd h (Nat.not_lt_zero m)
    | 13 => exact fun m r h => absurd h (Nat.not_lt_zero m)
    | 14 => exact fun m r h => absurd h (Nat.not_lt_zero m)
    | 15 => exact fun m h => absurd h (Nat.not_lt_zero m)
    | 16 => exact fun m h => absurd h (Nat.not_lt_zero m)
    | 17 => exact fun m h => absurd h (Nat.not_lt_zero m)
    | 18 => exact fun m h => absurd h (Nat.not_lt_zero m)
    | 19 => exact a19
    | 20 => exact a20
    | 21 => exact a21
    | 22 => exact a22
    | 23 => exact fun m h => absurd h (Nat.not_lt_zero m)
    | 24 => exact fun m h => absurd h (Nat.not_lt_zero m)
    | 25 => exact fun m k h => absurd h (Nat.not_lt_zero m)
    | _ + 26 => exact trivial
  · intro q
    match q with
    | 0 => exact b0
    | 1 => exact b1
    | 2 => exact b2
    | 3 => exact fun t _ => b3 t
    | 4 => exact fun t k _ h2 => absurd h2 (Nat.not_lt_zero k)
    | 5 => exact fun t k _ h2 => absurd h2 (Nat.not_lt_zero k)
    | 6 =>
      intro t h1 h2
      have h2 : zl_srt t = 5 := h2
      unfold zl_srt at h2
      split at h2
      · omega
      · split at h2
        · omega
        · split at h2 <;> omega
    | 7 => exact b7
    | 8 => exact fun m h => absurd h (Nat.not_lt_zero m)
    | 9 => exact fun m h => absurd h (Nat.not_lt_zero m)
    | 10 => exact fun m _ => b10 m
    | 11 => exact fun m r h => absurd h (Nat.not_lt_zero m)
    | 12 => exact fun m r h => absurd h (Nat.not_lt_zero m)
    | 13 => exact fun m r h => absurd h (Nat.not_lt_zero m)
    | 14 => exact b14
    | 15 => exact fun m h => absurd h (Nat.not_lt_zero m)
    | 16 => exact fun m h => absurd h (Nat.not_lt_zero m)
    | 17 => exact fun m h => absurd h (Nat.not_lt_zero m)
    | 18 => exact fun m h => absurd h (Nat.not_lt_zero m)
    | 19 => exact b19
    | 20 => exact b20
    | 21 => exact b21
    | 22 => exact b22
    | 23 => exact fun m h => absurd h (Nat.not_lt_zero m)
    | 24 => exact fun m h => absurd h (Nat.not_lt_zero m)
    | 25 => exact fun m k h => absurd h (Nat.not_lt_zero m)
    | 26 => exact fun m k h => absurd h (Nat.not_lt_zero m)
    | _ + 27 => exact trivial
