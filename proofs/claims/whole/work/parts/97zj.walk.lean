/-! along a path -/
theorem zm_lNi {o : Nat} (ho : o < 400) : (lN o).toInt32 = nI o := by simp (disch := omega) only [↓zd_bnd, ↓zy_bm, if_true, if_false, ite_true, ite_false, ↓reduceIte, Bool.false_eq_true, Bool.true_eq_false, eq_self, true_and, and_true, false_and, and_false, reduceCtorEq, decide_true, decide_false, not_true_eq_false, not_false_eq_true, ze_ltT, ze_ltF, ze_leT, ze_leF, ze_eqT, ze_eqF, ze_mlt, ze_ltm, ze_mle, ze_lem, ze_meq, ze_eqm, ze_mm, ze_mltm, ze_inT, ze_inF, ze_inM, ze_cl, ze_fin, ze_decT, ze_decF, Nat.reduceSub, Nat.reduceMul, nI_add, Nat.add_sub_cancel, Nat.add_assoc, Nat.reduceAdd, ze_r8, ze_r24, ze_r40, ze_r400, ze_l8, ze_l16, ze_l24, ze_l40, ze_sub, ze_am1, ze_es, ze_en, ze_i64, ze_m64, ze_64i, ze_64m, ze_LltT, ze_LltF, ze_LleT, ze_LleF, ze_LeqT, ze_LeqF, ze_Lmlt, ze_Lltm, ze_Lmle, ze_Llem, ze_Lmeq, ze_Leqm, ze_Lmm, lN_add, ze_ch, ze_chd, ze_bt, ze_bf, ze_n0, ze_n1, ze_n2, ze_n3, ze_n4, ze_n5, ze_n6, ze_n7, ze_n8, ze_n9, ze_n10, ze_n11, ze_n12, ze_n13, ze_n14, ze_n15, ze_n16, ze_n17, ze_n18, ze_n19, ze_n20, ze_n21, ze_n22, ze_n23, ze_n24, ze_n25, ze_n26, ze_n27, ze_n28, ze_n29, ze_n30, ze_n31, ze_n32, ze_n33, ze_n34, ze_n35, ze_n36, ze_n37, ze_n38, ze_n39, ze_n40, ze_n48, ze_n63, ze_n64, ze_n65, ze_n80, ze_n100, ze_n128, ze_n200, ze_n255, ze_n300, ze_n320, ze_n384, ze_n400, ze_n512, ze_n1023, ze_n1600, ze_n6400, ze_n9600, ze_n32768, ze_n65535, ze_n65536, ze_n802, ze_n8191, ze_L0, ze_L1, ze_L2, ze_L3, ze_L4, ze_L5, ze_L6, ze_L7, ze_L8, ze_L9, ze_L10, ze_L15, ze_L16, ze_L24, ze_L40, ze_L48, ze_L63, ze_L64, ze_L127, ze_L255, ze_L400, ze_L1024, ze_L2047, ze_L65535]
def zm_wk (A : zd_A) (t : Nat) (w : Int64) (o : Nat) : Nat → Option Int64
  | 0 => some (lN o)
  | k + 1 => match zm_wk A t w o k with
    | none => none
    | some v => if v = -lN 1 then none else some (zd_vl A v.toInt32.toNatClampNeg (zp_pk A t w k))
theorem zm_wk_s (A : zd_A) (t : Nat) (w : Int64) (o k : Nat) : zm_wk A t w o (k + 1) = (match zm_wk A t w o k with | none => none | some v => if v = -lN 1 then none else some (zd_vl A v.toInt32.toNatClampNeg (zp_pk A t w k))) := rfl
theorem zm_wk_none {A : zd_A} {t : Nat} {w : Int64} {o k : Nat} (h : zm_wk A t w o k = none) : ∀ d, zm_wk A t w o (k + d) = none := by
  intro d
  induction d with
  | zero => exact h
  | succ d ih => show zm_wk A t w o ((k + d) + 1) = none; rw [zm_wk_s, ih]
/-- one step of a path -/
theorem zm_tt_s {A : zd_A} {t : Nat} {w : Int64} {k u : Nat} (h : zp_tt A t w (k + 1) = some u) : ∃ v p, zp_tt A t w k = some v ∧ zd_srt A v = 4 ∧ zd_pl A v (nI (zp_nk w k)) = some p ∧ zp_pk A t w k = p ∧ u = zd_pt A v p := by
  have h : (match zp_tt A t w k with | none => none | some u => if zd_srt A u = 4 then (match zd_pl A u (nI (zp_nk w k)) with | none => none | some p => some (zd_pt A u p)) else none) = some u := h
  cases e : zp_tt A t w k with
  | none => rw [e] at h; cases h
  | some v =>
    rw [e] at h
    have h : (if zd_srt A v = 4 then (match zd_pl A v (nI (zp_nk w k)) with | none => none | some p => some (zd_pt A v p)) else none) = some u := h
    by_cases h4 : zd_srt A v = 4
    · rw [if_pos h4] at h
      cases e2 : zd_pl A v (nI (zp_nk w k)) with
      | none => rw [e2] at h; cases h
      | some p =>
        rw [e2] at h
        refine ⟨v, p, rfl, h4, e2, ?_, (Option.some.inj h).symm⟩
        unfold zp_pk
        rw [e]
        show (match zd_pl A v (nI (zp_nk w k)) with | none => 0 | some p => p) = p
        rw [e2]
    · rw [if_neg h4] at h; cases h
theorem zm_ix {A : zd_A} (K : zd_ok A) {o : Nat} (ho : o < zd_O A) : (lN o).toInt32.toNatClampNeg = o := by
  have hO := zd_ok_O K
  simp (disch := omega) only [↓zd_bnd, ↓zy_bm, if_true, if_false, ite_true, ite_false, ↓reduceIte, Bool.false_eq_true, Bool.true_eq_false, eq_self, true_and, and_true, false_and, and_false, reduceCtorEq, decide_true, decide_false, not_true_eq_false, not_false_eq_true, ze_ltT, ze_ltF, ze_leT, ze_leF, ze_eqT, ze_eqF, ze_mlt, ze_ltm, ze_mle, ze_lem, ze_meq, ze_eqm, ze_mm, ze_mltm, ze_inT, ze_inF, ze_inM, ze_cl, ze_fin, ze_decT, ze_decF, Nat.reduceSub, Nat.reduceMul, nI_add, Nat.add_sub_cancel, Nat.add_assoc, Nat.reduceAdd, ze_r8, ze_r24, ze_r40, ze_r400, ze_l8, ze_l16, ze_l24, ze_l40, ze_sub, ze_am1, ze_es, ze_en, ze_i64, ze_m64, ze_64i, ze_64m, ze_LltT, ze_LltF, ze_LleT, ze_LleF, ze_LeqT, ze_LeqF, ze_Lmlt, ze_Lltm, ze_Lmle, ze_Llem, ze_Lmeq, ze_Leqm, ze_Lmm, lN_add, ze_ch, ze_chd, ze_bt, ze_bf, ze_n0, ze_n1, ze_n2, ze_n3, ze_n4, ze_n5, ze_n6, ze_n7, ze_n8, ze_n9, ze_n10, ze_n11, ze_n12, ze_n13, ze_n14, ze_n15, ze_n16, ze_n17, ze_n18, ze_n19, ze_n20, ze_n21, ze_n22, ze_n23, ze_n24, ze_n25, ze_n26, ze_n27, ze_n28, ze_n29, ze_n30, ze_n31, ze_n32, ze_n33, ze_n34, ze_n35, ze_n36, ze_n37, ze_n38, ze_n39, ze_n40, ze_n48, ze_n63, ze_n64, ze_n65, ze_n80, ze_n100, ze_n128, ze_n200, ze_n255, ze_n300, ze_n320, ze_n384, ze_n400, ze_n512, ze_n1023, ze_n1600, ze_n6400, ze_n9600, ze_n32768, ze_n65535, ze_n65536, ze_n802, ze_n8191, ze_L0, ze_L1, ze_L2, ze_L3, ze_L4, ze_L5, ze_L6, ze_L7, ze_L8, ze_L9, ze_L10, ze_L15, ze_L16, ze_L24, ze_L40, ze_L48, ze_L63, ze_L64, ze_L127, ze_L255, ze_L400, ze_L1024, ze_L2047, ze_L65535]
theorem zm_bean_val {A : zd_A} (K : zd_ok A) {u : Nat} (h4 : zd_srt A u = 4) {v : Int64} (hv : zd_val A u v) : v = -lN 1 ∨ ∃ o, o < zd_O A ∧ zd_ty A o = u ∧ v = lN o := by
  have h7 : 7 ≤ u := by
    by_cases c : 7 ≤ u
    · exact c
    · have := zd_ok_s0 K u (by omega); omega
  rcases (zn_valO K h7 v).mp hv with e | ⟨e, _⟩ | ⟨_, e⟩
  · exact Or.inl e
  · omega
  · exact Or.inr e
theorem zm_wk_val {A : zd_A} (K : zd_ok A) {t : Nat} {w : Int64} {o : Nat} (ht : zd_srt A t = 4) (ho : o < zd_O A) (hto : zd_ty A o = t) : ∀ k u v, zp_tt A t w k = some u → zm_wk A t w o k = some v → zd_val A u v := by
  have h7 : 7 ≤ t := by
    by_cases c : 7 ≤ t
    · exact c
    · have := zd_ok_s0 K t (by omega); omega
  intro k
  induction k with
  | zero =>
    intro u v e1 e2
    have e1 : some t = some u := e1
    have e2 : some (lN o) = some v := e2
    cases e1; cases e2
    exact (zn_valO K h7 _).mpr (Or.inr (Or.inr ⟨by omega, o, ho, hto, rfl⟩))
  | succ k ih =>
    intro u v e1 e2
    obtain ⟨u0, p, a1, a2, a3, a4, rfl⟩ := zm_tt_s e1
    rw [zm_wk_s] at e2
    cases e3 : zm_wk A t w o k with
    | none => rw [e3] at e2; cases e2
    | some v0 =>
      rw [e3] at e2
      have e2 : (if v0 = -lN 1 then none else some (zd_vl A v0.toInt32.toNatClampNeg (zp_pk A t w k))) = some v := e2
      rcases zm_bean_val K a2 (ih u0 v0 a1 e3) with c | ⟨o2, h1, h2, h3⟩
      · rw [if_pos c] at e2; cases e2
      · have hO := zd_ok_O K
        have hne : ¬ v0 = -lN 1 := by rw [h3]; simp (disch := omega) only [↓zd_bnd, ↓zy_bm, if_true, if_false, ite_true, ite_false, ↓reduceIte, Bool.false_eq_true, Bool.true_eq_false, eq_self, true_and, and_true, false_and, and_false, reduceCtorEq, decide_true, decide_false, not_true_eq_false, not_false_eq_true, ze_ltT, ze_ltF, ze_leT, ze_leF, ze_eqT, ze_eqF, ze_mlt, ze_ltm, ze_mle, ze_lem, ze_meq, ze_eqm, ze_mm, ze_mltm, ze_inT, ze_inF, ze_inM, ze_cl, ze_fin, ze_decT, ze_decF, Nat.reduceSub, Nat.reduceMul, nI_add, Nat.add_sub_cancel, Nat.add_assoc, Nat.reduceAdd, ze_r8, ze_r24, ze_r40, ze_r400, ze_l8, ze_l16, ze_l24, ze_l40, ze_sub, ze_am1, ze_es, ze_en, ze_i64, ze_m64, ze_64i, ze_64m, ze_LltT, ze_LltF, ze_LleT, ze_LleF, ze_LeqT, ze_LeqF, ze_Lmlt, ze_Lltm, ze_Lmle, ze_Llem, ze_Lmeq, ze_Leqm, ze_Lmm, lN_add, ze_ch, ze_chd, ze_bt, ze_bf, ze_n0, ze_n1, ze_n2, ze_n3, ze_n4, ze_n5, ze_n6, ze_n7, ze_n8, ze_n9, ze_n10, ze_n11, ze_n12, ze_n13, ze_n14, ze_n15, ze_n16, ze_n17, ze_n18, ze_n19, ze_n20, ze_n21, ze_n22, ze_n23, ze_n24, ze_n25, ze_n26, ze_n27, ze_n28, ze_n29, ze_n30, ze_n31, ze_n32, ze_n33, ze_n34, ze_n35, ze_n36, ze_n37, ze_n38, ze_n39, ze_n40, ze_n48, ze_n63, ze_n64, ze_n65, ze_n80, ze_n100, ze_n128, ze_n200, ze_n255, ze_n300, ze_n320, ze_n384, ze_n400, ze_n512, ze_n1023, ze_n1600, ze_n6400, ze_n9600, ze_n32768, ze_n65535, ze_n65536, ze_n802, ze_n8191, ze_L0, ze_L1, ze_L2, ze_L3, ze_L4, ze_L5, ze_L6, ze_L7, ze_L8, ze_L9, ze_L10, ze_L15, ze_L16, ze_L24, ze_L40, ze_L48, ze_L63, ze_L64, ze_L127, ze_L255, ze_L400, ze_L1024, ze_L2047, ze_L65535]
        rw [if_neg hne, h3, zm_ix K h1, a4] at e2
        cases e2
        have l4 := zd_ok_l4 K o2 h1 (by rw [h2]; exact a2)
        have := l4.2 p (by rw [l4.1, h2]; exact (zd_pl_lt a3).1)
        rw [h2] at this
        exact this
/-- the class walks -/
theorem zm_C_walk {A : zd_A} {h0 : zx_H} (H : zd_C A h0) (K : zd_ok A) {s : zx_H} {n : Nat} (X : zm_C A h0 s n) {t : Nat} {w : Int64} {o : Nat} (ht : zd_srt A t = 4) (ho : o < zd_O A) (hto : zd_ty A o = t) {i : Nat} (hi : i < 129) (hst : 0 < zp_st w) {e : Nat} (he : zp_tt A t w (zp_st w) = some e) (c61 : ∀ q, q < zp_st w → s.1 61 i q = nI (zp_pk A t w q)) (x3 x4 x6 : Int32) : ∀ d j F V, j + d + 1 = zp_st w → d < F → zm_wk A t w o j = some V → zx_loop (fun _ _ _ _ _ _ _ _ => none) zs_Mapper_fillProperty_L99_body F x3 x4 (⟨i, hi⟩ : Fin 129) x6 V (nI (zp_st w - 1)) (nI j) s = (match zm_wk A t w o (zp_st w) with | none => zs_Mapper_fillProperty_J203 x3 x4 ⟨i, hi⟩ x6 true (-lN 1) s | some v => zs_Mapper_fillProperty_J203 x3 x4 ⟨i, hi⟩ x6 false v s) := by
  have h3 := zp_st3 w
  have hO := zd_ok_O K
  have step : ∀ j V, j < zp_st w → zm_wk A t w o j = some V → (V = -lN 1 ∧ zm_wk A t w o (zp_st w) = none) ∨ (∃ o2, V = lN o2 ∧ o2 < 400 ∧ ¬ V = -lN 1 ∧ zp_pk A t w j < 8 ∧ zs_Store_cell (nI o2) (nI (zp_pk A t w j)) s = some (zd_vl A o2 (zp_pk A t w j)) ∧ zm_wk A t w o (j + 1) = some (zd_vl A o2 (zp_pk A t w j))) := by
    intro j V hj hV
    have : ∃ u, zp_tt A t w (j + 1) = some u := by
      cases e2 : zp_tt A t w (j + 1) with
      | some u => exact ⟨u, rfl⟩
      | none =>
        have := zp_tt_none e2 (zp_st w - (j + 1))
        rw [show j + 1 + (zp_st w - (j + 1)) = zp_st w by omega, he] at this
        cases this
    obtain ⟨u, hu⟩ := this
    obtain ⟨u0, p, a1, a2, a3, a4, _⟩ := zm_tt_s hu
    rcases zm_bean_val K a2 (zm_wk_val K ht ho hto j u0 V a1 hV) with c | ⟨o2, h1, h2, h4⟩
    · refine Or.inl ⟨c, ?_⟩
      have := zm_wk_none (k := j + 1) (by rw [zm_wk_s, hV]; exact if_pos c) (zp_st w - (j + 1))
      rwa [show j + 1 + (zp_st w - (j + 1)) = zp_st w by omega] at this
    · have hne : ¬ V = -lN 1 := by rw [h4]; simp (disch := omega) only [↓zd_bnd, ↓zy_bm, if_true, if_false, ite_true, ite_false, ↓reduceIte, Bool.false_eq_true, Bool.true_eq_false, eq_self, true_and, and_true, false_and, and_false, reduceCtorEq, decide_true, decide_false, not_true_eq_false, not_false_eq_true, ze_ltT, ze_ltF, ze_leT, ze_leF, ze_eqT, ze_eqF, ze_mlt, ze_ltm, ze_mle, ze_lem, ze_meq, ze_eqm, ze_mm, ze_mltm, ze_inT, ze_inF, ze_inM, ze_cl, ze_fin, ze_decT, ze_decF, Nat.reduceSub, Nat.reduceMul, nI_add, Nat.add_sub_cancel, Nat.add_assoc, Nat.reduceAdd, ze_r8, ze_r24, ze_r40, ze_r400, ze_l8, ze_l16, ze_l24, ze_l40, ze_sub, ze_am1, ze_es, ze_en, ze_i64, ze_m64, ze_64i, ze_64m, ze_LltT, ze_LltF, ze_LleT, ze_LleF, ze_LeqT, ze_LeqF, ze_Lmlt, ze_Lltm, ze_Lmle, ze_Llem, ze_Lmeq, ze_Leqm, ze_Lmm, lN_add, ze_ch, ze_chd, ze_bt, ze_bf, ze_n0, ze_n1, ze_n2, ze_n3, ze_n4, ze_n5, ze_n6, ze_n7, ze_n8, ze_n9, ze_n10, ze_n11, ze_n12, ze_n13, ze_n14, ze_n15, ze_n16, ze_n17, ze_n18, ze_n19, ze_n20, ze_n21, ze_n22, ze_n23, ze_n24, ze_n25, ze_n26, ze_n27, ze_n28, ze_n29, ze_n30, ze_n31, ze_n32, ze_n33, ze_n34, ze_n35, ze_n36, ze_n37, ze_n38, ze_n39, ze_n40, ze_n48, ze_n63, ze_n64, ze_n65, ze_n80, ze_n100, ze_n128, ze_n200, ze_n255, ze_n300, ze_n320, ze_n384, ze_n400, ze_n512, ze_n1023, ze_n1600, ze_n6400, ze_n9600, ze_n32768, ze_n65535, ze_n65536, ze_n802, ze_n8191, ze_L0, ze_L1, ze_L2, ze_L3, ze_L4, ze_L5, ze_L6, ze_L7, ze_L8, ze_L9, ze_L10, ze_L15, ze_L16, ze_L24, ze_L40, ze_L48, ze_L63, ze_L64, ze_L127, ze_L255, ze_L400, ze_L1024, ze_L2047, ze_L65535]
      have l4 := zd_ok_l4 K o2 h1 (by rw [h2]; exact a2)
      have pl := (zd_pl_lt a3).1
      have hu0 : u0 < 40 := by have := zd_ok_ty K o2 h1; have := zd_ok_T K; omega
      have hz := zd_ok_sz K u0 hu0
      refine Or.inr ⟨o2, h4, by omega, hne, by omega, ?_, ?_⟩
      · rw [a4]; exact zm_C_cell H K X h1 (by rw [l4.1, h2]; exact pl)
      · rw [zm_wk_s, hV]
        show (if V = -lN 1 then none else _) = _
        rw [if_neg hne, h4, zm_ix K h1]
  intro d
  induction d with
  | zero =>
    intro j F V hj hF hV
    obtain ⟨F, rfl⟩ : ∃ G, F = G + 1 := ⟨F - 1, by omega⟩
    have hj : j + 1 = zp_st w := hj
    have hc := c61 j (by omega)
    have hj2 : zp_st w - 1 = j := by omega
    show zs_Mapper_fillProperty_L99_body _ x3 x4 _ x6 V (nI (zp_st w - 1)) (nI j) s = _
    rw [hj2]
    rcases step j V (by omega) hV with ⟨c, wn⟩ | ⟨o2, h4, ho2, hne, hp, hcell, wn⟩
    · rw [wn, c]
      simp (disch := omega) only [zs_Mapper_fillProperty_L99_body, zs_Mapper_fillProperty_J147, zs_Mapper_fillProperty_J167, zs_Mapper_fillProperty_J172, ↓zd_bnd, ↓zy_bm, if_true, if_false, ite_true, ite_false, ↓reduceIte, Bool.false_eq_true, Bool.true_eq_false, eq_self, true_and, and_true, false_and, and_false, reduceCtorEq, decide_true, decide_false, not_true_eq_false, not_false_eq_true, ze_ltT, ze_ltF, ze_leT, ze_leF, ze_eqT, ze_eqF, ze_mlt, ze_ltm, ze_mle, ze_lem, ze_meq, ze_eqm, ze_mm, ze_mltm, ze_inT, ze_inF, ze_inM, ze_cl, ze_fin, ze_decT, ze_decF, Nat.reduceSub, Nat.reduceMul, nI_add, Nat.add_sub_cancel, Nat.add_assoc, Nat.reduceAdd, ze_r8, ze_r24, ze_r40, ze_r400, ze_l8, ze_l16, ze_l24, ze_l40, ze_sub, ze_am1, ze_es, ze_en, ze_i64, ze_m64, ze_64i, ze_64m, ze_LltT, ze_LltF, ze_LleT, ze_LleF, ze_LeqT, ze_LeqF, ze_Lmlt, ze_Lltm, ze_Lmle, ze_Llem, ze_Lmeq, ze_Leqm, ze_Lmm, lN_add, ze_ch, ze_chd, ze_bt, ze_bf, ze_n0, ze_n1, ze_n2, ze_n3, ze_n4, ze_n5, ze_n6, ze_n7, ze_n8, ze_n9, ze_n10, ze_n11, ze_n12, ze_n13, ze_n14, ze_n15, ze_n16, ze_n17, ze_n18, ze_n19, ze_n20, ze_n21, ze_n22, ze_n23, ze_n24, ze_n25, ze_n26, ze_n27, ze_n28, ze_n29, ze_n30, ze_n31, ze_n32, ze_n33, ze_n34, ze_n35, ze_n36, ze_n37, ze_n38, ze_n39, ze_n40, ze_n48, ze_n63, ze_n64, ze_n65, ze_n80, ze_n100, ze_n128, ze_n200, ze_n255, ze_n300, ze_n320, ze_n384, ze_n400, ze_n512, ze_n1023, ze_n1600, ze_n6400, ze_n9600, ze_n32768, ze_n65535, ze_n65536, ze_n802, ze_n8191, ze_L0, ze_L1, ze_L2, ze_L3, ze_L4, ze_L5, ze_L6, ze_L7, ze_L8, ze_L9, ze_L10, ze_L15, ze_L16, ze_L24, ze_L40, ze_L48, ze_L63, ze_L64, ze_L127, ze_L255, ze_L400, ze_L1024, ze_L2047, ze_L65535]
    · rw [← hj, wn, h4]
      simp (disch := omega) only [zs_Mapper_fillProperty_L99_body, zs_Mapper_fillProperty_J147, zs_Mapper_fillProperty_J167, zs_Mapper_fillProperty_J172, hc, hcell, ↓zd_bnd, ↓zy_bm, if_true, if_false, ite_true, ite_false, ↓reduceIte, Bool.false_eq_true, Bool.true_eq_false, eq_self, true_and, and_true, false_and, and_false, reduceCtorEq, decide_true, decide_false, not_true_eq_false, not_false_eq_true, ze_ltT, ze_ltF, ze_leT, ze_leF, ze_eqT, ze_eqF, ze_mlt, ze_ltm, ze_mle, ze_lem, ze_meq, ze_eqm, ze_mm, ze_mltm, ze_inT, ze_inF, ze_inM, ze_cl, ze_fin, ze_decT, ze_decF, Nat.reduceSub, Nat.reduceMul, nI_add, Nat.add_sub_cancel, Nat.add_assoc, Nat.reduceAdd, ze_r8, ze_r24, ze_r40, ze_r400, ze_l8, ze_l16, ze_l24, ze_l40, ze_sub, ze_am1, ze_es, ze_en, ze_i64, ze_m64, ze_64i, ze_64m, ze_LltT, ze_LltF, ze_LleT, ze_LleF, ze_LeqT, ze_LeqF, ze_Lmlt, ze_Lltm, ze_Lmle, ze_Llem, ze_Lmeq, ze_Leqm, ze_Lmm, lN_add, ze_ch, ze_chd, ze_bt, ze_bf, ze_n0, ze_n1, ze_n2, ze_n3, ze_n4, ze_n5, ze_n6, ze_n7, ze_n8, ze_n9, ze_n10, ze_n11, ze_n12, ze_n13, ze_n14, ze_n15, ze_n16, ze_n17, ze_n18, ze_n19, ze_n20, ze_n21, ze_n22, ze_n23, ze_n24, ze_n25, ze_n26, ze_n27, ze_n28, ze_n29, ze_n30, ze_n31, ze_n32, ze_n33, ze_n34, ze_n35, ze_n36, ze_n37, ze_n38, ze_n39, ze_n40, ze_n48, ze_n63, ze_n64, ze_n65, ze_n80, ze_n100, ze_n128, ze_n200, ze_n255, ze_n300, ze_n320, ze_n384, ze_n400, ze_n512, ze_n1023, ze_n1600, ze_n6400, ze_n9600, ze_n32768, ze_n65535, ze_n65536, ze_n802, ze_n8191, ze_L0, ze_L1, ze_L2, ze_L3, ze_L4, ze_L5, ze_L6, ze_L7, ze_L8, ze_L9, ze_L10, ze_L15, ze_L16, ze_L24, ze_L40, ze_L48, ze_L63, ze_L64, ze_L127, ze_L255, ze_L400, ze_L1024, ze_L2047, ze_L65535]
  | succ d ih =>
    intro j F V hj hF hV
    obtain ⟨F, rfl⟩ : ∃ G, F = G + 1 := ⟨F - 1, by omega⟩
    have hc := c61 j (by omega)
    rcases step j V (by omega) hV with ⟨c, wn⟩ | ⟨o2, h4, ho2, hne, hp, hcell, wn⟩
    · show zs_Mapper_fillProperty_L99_body _ x3 x4 _ x6 V (nI (zp_st w - 1)) (nI j) s = _
      rw [wn, c]
      simp (disch := omega) only [zs_Mapper_fillProperty_L99_body, zs_Mapper_fillProperty_J147, zs_Mapper_fillProperty_J167, zs_Mapper_fillProperty_J172, ↓zd_bnd, ↓zy_bm, if_true, if_false, ite_true, ite_false, ↓reduceIte, Bool.false_eq_true, Bool.true_eq_false, eq_self, true_and, and_true, false_and, and_false, reduceCtorEq, decide_true, decide_false, not_true_eq_false, not_false_eq_true, ze_ltT, ze_ltF, ze_leT, ze_leF, ze_eqT, ze_eqF, ze_mlt, ze_ltm, ze_mle, ze_lem, ze_meq, ze_eqm, ze_mm, ze_mltm, ze_inT, ze_inF, ze_inM, ze_cl, ze_fin, ze_decT, ze_decF, Nat.reduceSub, Nat.reduceMul, nI_add, Nat.add_sub_cancel, Nat.add_assoc, Nat.reduceAdd, ze_r8, ze_r24, ze_r40, ze_r400, ze_l8, ze_l16, ze_l24, ze_l40, ze_sub, ze_am1, ze_es, ze_en, ze_i64, ze_m64, ze_64i, ze_64m, ze_LltT, ze_LltF, ze_LleT, ze_LleF, ze_LeqT, ze_LeqF, ze_Lmlt, ze_Lltm, ze_Lmle, ze_Llem, ze_Lmeq, ze_Leqm, ze_Lmm, lN_add, ze_ch, ze_chd, ze_bt, ze_bf, ze_n0, ze_n1, ze_n2, ze_n3, ze_n4, ze_n5, ze_n6, ze_n7, ze_n8, ze_n9, ze_n10, ze_n11, ze_n12, ze_n13, ze_n14, ze_n15, ze_n16, ze_n17, ze_n18, ze_n19, ze_n20, ze_n21, ze_n22, ze_n23, ze_n24, ze_n25, ze_n26, ze_n27, ze_n28, ze_n29, ze_n30, ze_n31, ze_n32, ze_n33, ze_n34, ze_n35, ze_n36, ze_n37, ze_n38, ze_n39, ze_n40, ze_n48, ze_n63, ze_n64, ze_n65, ze_n80, ze_n100, ze_n128, ze_n200, ze_n255, ze_n300, ze_n320, ze_n384, ze_n400, ze_n512, ze_n1023, ze_n1600, ze_n6400, ze_n9600, ze_n32768, ze_n65535, ze_n65536, ze_n802, ze_n8191, ze_L0, ze_L1, ze_L2, ze_L3, ze_L4, ze_L5, ze_L6, ze_L7, ze_L8, ze_L9, ze_L10, ze_L15, ze_L16, ze_L24, ze_L40, ze_L48, ze_L63, ze_L64, ze_L127, ze_L255, ze_L400, ze_L1024, ze_L2047, ze_L65535]
    · rw [← ih (j + 1) F _ (by omega) (by omega) wn]
      show zs_Mapper_fillProperty_L99_body _ x3 x4 _ x6 V (nI (zp_st w - 1)) (nI j) s = _
      rw [h4]
      simp (disch := omega) only [zs_Mapper_fillProperty_L99_body, hc, hcell, ↓zd_bnd, ↓zy_bm, if_true, if_false, ite_true, ite_false, ↓reduceIte, Bool.false_eq_true, Bool.true_eq_false, eq_self, true_and, and_true, false_and, and_false, reduceCtorEq, decide_true, decide_false, not_true_eq_false, not_false_eq_true, ze_ltT, ze_ltF, ze_leT, ze_leF, ze_eqT, ze_eqF, ze_mlt, ze_ltm, ze_mle, ze_lem, ze_meq, ze_eqm, ze_mm, ze_mltm, ze_inT, ze_inF, ze_inM, ze_cl, ze_fin, ze_decT, ze_decF, Nat.reduceSub, Nat.reduceMul, nI_add, Nat.add_sub_cancel, Nat.add_assoc, Nat.reduceAdd, ze_r8, ze_r24, ze_r40, ze_r400, ze_l8, ze_l16, ze_l24, ze_l40, ze_sub, ze_am1, ze_es, ze_en, ze_i64, ze_m64, ze_64i, ze_64m, ze_LltT, ze_LltF, ze_LleT, ze_LleF, ze_LeqT, ze_LeqF, ze_Lmlt, ze_Lltm, ze_Lmle, ze_Llem, ze_Lmeq, ze_Leqm, ze_Lmm, lN_add, ze_ch, ze_chd, ze_bt, ze_bf, ze_n0, ze_n1, ze_n2, ze_n3, ze_n4, ze_n5, ze_n6, ze_n7, ze_n8, ze_n9, ze_n10, ze_n11, ze_n12, ze_n13, ze_n14, ze_n15, ze_n16, ze_n17, ze_n18, ze_n19, ze_n20, ze_n21, ze_n22, ze_n23, ze_n24, ze_n25, ze_n26, ze_n27, ze_n28, ze_n29, ze_n30, ze_n31, ze_n32, ze_n33, ze_n34, ze_n35, ze_n36, ze_n37, ze_n38, ze_n39, ze_n40, ze_n48, ze_n63, ze_n64, ze_n65, ze_n80, ze_n100, ze_n128, ze_n200, ze_n255, ze_n300, ze_n320, ze_n384, ze_n400, ze_n512, ze_n1023, ze_n1600, ze_n6400, ze_n9600, ze_n32768, ze_n65535, ze_n65536, ze_n802, ze_n8191, ze_L0, ze_L1, ze_L2, ze_L3, ze_L4, ze_L5, ze_L6, ze_L7, ze_L8, ze_L9, ze_L10, ze_L15, ze_L16, ze_L24, ze_L40, ze_L48, ze_L63, ze_L64, ze_L127, ze_L255, ze_L400, ze_L1024, ze_L2047, ze_L65535]
      rfl
/-- the reference walks -/
theorem zm_R_walk {A : zd_A} {h0 : zx_H} (H : zd_R A h0) (K : zd_ok A) {s : zx_H} {n : Nat} (X : zm_R A h0 s n) {t : Nat} {w : Int64} {o : Nat} (htT : t < zd_T A) (ht : zd_srt A t = 4) (ho : o < zd_O A) (hto : zd_ty A o = t) (hst : 0 < zp_st w) {e : Nat} (he : zp_tt A t w (zp_st w) = some e) (x1 x2 x3 : Int32) : ∀ d j F V u, j + d + 1 = zp_st w → d < F → zp_tt A t w j = some u → zm_wk A t w o j = some V → zx_loop (fun _ _ _ _ _ _ _ _ => none) zs_Ref_valueOf_L52_body F x1 x2 x3 w (nI u) V (nI j) s = (match zm_wk A t w o (zp_st w) with | none => zs_Ref_valueOf_J145 x1 x2 x3 s | some v => zs_Ref_ends x1 x2 (nI e) x3 v s) := by
  have h3 := zp_st3 w
  have hO := zd_ok_O K
  have hT := zd_ok_T K
  intro d
  induction d with
  | zero =>
    intro j F V u hj hF hu hV
    obtain ⟨F, rfl⟩ : ∃ G, F = G + 1 := ⟨F - 1, by omega⟩
    have hj : j + 1 = zp_st w := hj
    rw [← hj] at he
    obtain ⟨u0, p, a1, a2, a3, a4, a5⟩ := zm_tt_s he
    rw [hu] at a1
    cases a1
    have n1 := zp_R_nameOf s w (k := j) (by omega)
    have n2 := zp_R_nameOf s w (k := j + 1) (by omega)
    rw [if_pos (by omega)] at n1
    rw [if_neg (by omega)] at n2
    have hb : zp_nk w j < 256 := by have := zn_byte_lt w j; unfold zp_nk; omega
    show zs_Ref_valueOf_L52_body _ x1 x2 x3 w (nI u) V (nI j) s = _
    have uT := zp_tt_lt K htT hu
    have pl := (zd_pl_lt a3).1
    have hz := zd_ok_sz K u (by omega)
    rcases zm_bean_val K a2 (zm_wk_val K ht ho hto j u V hu hV) with c | ⟨o2, h1, h2, h4⟩
    · have wn : zm_wk A t w o (zp_st w) = none := by rw [← hj, zm_wk_s, hV]; exact if_pos c
      rw [wn, c]
      simp (disch := omega) only [zs_Ref_valueOf_L52_body, n1, ↓zd_bnd, ↓zy_bm, if_true, if_false, ite_true, ite_false, ↓reduceIte, Bool.false_eq_true, Bool.true_eq_false, eq_self, true_and, and_true, false_and, and_false, reduceCtorEq, decide_true, decide_false, not_true_eq_false, not_false_eq_true, ze_ltT, ze_ltF, ze_leT, ze_leF, ze_eqT, ze_eqF, ze_mlt, ze_ltm, ze_mle, ze_lem, ze_meq, ze_eqm, ze_mm, ze_mltm, ze_inT, ze_inF, ze_inM, ze_cl, ze_fin, ze_decT, ze_decF, Nat.reduceSub, Nat.reduceMul, nI_add, Nat.add_sub_cancel, Nat.add_assoc, Nat.reduceAdd, ze_r8, ze_r24, ze_r40, ze_r400, ze_l8, ze_l16, ze_l24, ze_l40, ze_sub, ze_am1, ze_es, ze_en, ze_i64, ze_m64, ze_64i, ze_64m, ze_LltT, ze_LltF, ze_LleT, ze_LleF, ze_LeqT, ze_LeqF, ze_Lmlt, ze_Lltm, ze_Lmle, ze_Llem, ze_Lmeq, ze_Leqm, ze_Lmm, lN_add, ze_ch, ze_chd, ze_bt, ze_bf, ze_n0, ze_n1, ze_n2, ze_n3, ze_n4, ze_n5, ze_n6, ze_n7, ze_n8, ze_n9, ze_n10, ze_n11, ze_n12, ze_n13, ze_n14, ze_n15, ze_n16, ze_n17, ze_n18, ze_n19, ze_n20, ze_n21, ze_n22, ze_n23, ze_n24, ze_n25, ze_n26, ze_n27, ze_n28, ze_n29, ze_n30, ze_n31, ze_n32, ze_n33, ze_n34, ze_n35, ze_n36, ze_n37, ze_n38, ze_n39, ze_n40, ze_n48, ze_n63, ze_n64, ze_n65, ze_n80, ze_n100, ze_n128, ze_n200, ze_n255, ze_n300, ze_n320, ze_n384, ze_n400, ze_n512, ze_n1023, ze_n1600, ze_n6400, ze_n9600, ze_n32768, ze_n65535, ze_n65536, ze_n802, ze_n8191, ze_L0, ze_L1, ze_L2, ze_L3, ze_L4, ze_L5, ze_L6, ze_L7, ze_L8, ze_L9, ze_L10, ze_L15, ze_L16, ze_L24, ze_L40, ze_L48, ze_L63, ze_L64, ze_L127, ze_L255, ze_L400, ze_L1024, ze_L2047, ze_L65535]
    · have hne : ¬ V = -lN 1 := by rw [h4]; simp (disch := omega) only [↓zd_bnd, ↓zy_bm, if_true, if_false, ite_true, ite_false, ↓reduceIte, Bool.false_eq_true, Bool.true_eq_false, eq_self, true_and, and_true, false_and, and_false, reduceCtorEq, decide_true, decide_false, not_true_eq_false, not_false_eq_true, ze_ltT, ze_ltF, ze_leT, ze_leF, ze_eqT, ze_eqF, ze_mlt, ze_ltm, ze_mle, ze_lem, ze_meq, ze_eqm, ze_mm, ze_mltm, ze_inT, ze_inF, ze_inM, ze_cl, ze_fin, ze_decT, ze_decF, Nat.reduceSub, Nat.reduceMul, nI_add, Nat.add_sub_cancel, Nat.add_assoc, Nat.reduceAdd, ze_r8, ze_r24, ze_r40, ze_r400, ze_l8, ze_l16, ze_l24, ze_l40, ze_sub, ze_am1, ze_es, ze_en, ze_i64, ze_m64, ze_64i, ze_64m, ze_LltT, ze_LltF, ze_LleT, ze_LleF, ze_LeqT, ze_LeqF, ze_Lmlt, ze_Lltm, ze_Lmle, ze_Llem, ze_Lmeq, ze_Leqm, ze_Lmm, lN_add, ze_ch, ze_chd, ze_bt, ze_bf, ze_n0, ze_n1, ze_n2, ze_n3, ze_n4, ze_n5, ze_n6, ze_n7, ze_n8, ze_n9, ze_n10, ze_n11, ze_n12, ze_n13, ze_n14, ze_n15, ze_n16, ze_n17, ze_n18, ze_n19, ze_n20, ze_n21, ze_n22, ze_n23, ze_n24, ze_n25, ze_n26, ze_n27, ze_n28, ze_n29, ze_n30, ze_n31, ze_n32, ze_n33, ze_n34, ze_n35, ze_n36, ze_n37, ze_n38, ze_n39, ze_n40, ze_n48, ze_n63, ze_n64, ze_n65, ze_n80, ze_n100, ze_n128, ze_n200, ze_n255, ze_n300, ze_n320, ze_n384, ze_n400, ze_n512, ze_n1023, ze_n1600, ze_n6400, ze_n9600, ze_n32768, ze_n65535, ze_n65536, ze_n802, ze_n8191, ze_L0, ze_L1, ze_L2, ze_L3, ze_L4, ze_L5, ze_L6, ze_L7, ze_L8, ze_L9, ze_L10, ze_L15, ze_L16, ze_L24, ze_L40, ze_L48, ze_L63, ze_L64, ze_L127, ze_L255, ze_L400, ze_L1024, ze_L2047, ze_L65535]
      have l4 := zd_ok_l4 K o2 h1 (by rw [h2]; exact a2)
      have hpl := (zk_zs_Ref_placeOf (zm_R_sf X) (nI u) (nI (zp_nk w j))).trans (zd_R_placeOf H K uT (nI (zp_nk w j)))
      rw [a3] at hpl
      have hpl : zs_Ref_placeOf (nI u) (nI (zp_nk w j)) s = some (nI p) := hpl
      have r42 : s.2 42 0 (16 * o2 + p) = zd_vl A o2 p := (X.1.2.2.2.1 _ (by omega)).trans (zd_R_vl H o2 p h1 (by rw [l4.1, h2]; exact pl) (by have := zd_ok_s2 K; intro z; rw [h2] at z; rw [z] at a2; omega))
      have c28 := (X.1.1 28 (by decide) (by decide)).1
      have wn : zm_wk A t w o (zp_st w) = some (zd_vl A o2 p) := by
        rw [← hj, zm_wk_s, hV]
        show (if V = -lN 1 then none else _) = _
        rw [if_neg hne, h4, zm_ix K h1, a4]
      rw [wn, h4, a5]
      simp (disch := omega) only [zs_Ref_valueOf_L52_body, n1, n2, hpl, r42, c28, zd_R_pt H, ↓zd_bnd, ↓zy_bm, if_true, if_false, ite_true, ite_false, ↓reduceIte, Bool.false_eq_true, Bool.true_eq_false, eq_self, true_and, and_true, false_and, and_false, reduceCtorEq, decide_true, decide_false, not_true_eq_false, not_false_eq_true, ze_ltT, ze_ltF, ze_leT, ze_leF, ze_eqT, ze_eqF, ze_mlt, ze_ltm, ze_mle, ze_lem, ze_meq, ze_eqm, ze_mm, ze_mltm, ze_inT, ze_inF, ze_inM, ze_cl, ze_fin, ze_decT, ze_decF, Nat.reduceSub, Nat.reduceMul, nI_add, Nat.add_sub_cancel, Nat.add_assoc, Nat.reduceAdd, ze_r8, ze_r24, ze_r40, ze_r400, ze_l8, ze_l16, ze_l24, ze_l40, ze_sub, ze_am1, ze_es, ze_en, ze_i64, ze_m64, ze_64i, ze_64m, ze_LltT, ze_LltF, ze_LleT, ze_LleF, ze_LeqT, ze_LeqF, ze_Lmlt, ze_Lltm, ze_Lmle, ze_Llem, ze_Lmeq, ze_Leqm, ze_Lmm, lN_add, ze_ch, ze_chd, ze_bt, ze_bf, ze_n0, ze_n1, ze_n2, ze_n3, ze_n4, ze_n5, ze_n6, ze_n7, ze_n8, ze_n9, ze_n10, ze_n11, ze_n12, ze_n13, ze_n14, ze_n15, ze_n16, ze_n17, ze_n18, ze_n19, ze_n20, ze_n21, ze_n22, ze_n23, ze_n24, ze_n25, ze_n26, ze_n27, ze_n28, ze_n29, ze_n30, ze_n31, ze_n32, ze_n33, ze_n34, ze_n35, ze_n36, ze_n37, ze_n38, ze_n39, ze_n40, ze_n48, ze_n63, ze_n64, ze_n65, ze_n80, ze_n100, ze_n128, ze_n200, ze_n255, ze_n300, ze_n320, ze_n384, ze_n400, ze_n512, ze_n1023, ze_n1600, ze_n6400, ze_n9600, ze_n32768, ze_n65535, ze_n65536, ze_n802, ze_n8191, ze_L0, ze_L1, ze_L2, ze_L3, ze_L4, ze_L5, ze_L6, ze_L7, ze_L8, ze_L9, ze_L10, ze_L15, ze_L16, ze_L24, ze_L40, ze_L48, ze_L63, ze_L64, ze_L127, ze_L255, ze_L400, ze_L1024, ze_L2047, ze_L65535]
      cases zs_Ref_ends x1 x2 (nI (zd_pt A u p)) x3 (zd_vl A o2 p) s <;> rfl
  | succ d ih =>
    intro j F V u hj hF hu hV
    obtain ⟨F, rfl⟩ : ∃ G, F = G + 1 := ⟨F - 1, by omega⟩
    have hex : ∃ u2, zp_tt A t w (j + 1) = some u2 := by
      cases e2 : zp_tt A t w (j + 1) with
      | some u2 => exact ⟨u2, rfl⟩
      | none =>
        have := zp_tt_none e2 (zp_st w - (j + 1))
        rw [show j + 1 + (zp_st w - (j + 1)) = zp_st w by omega, he] at this
        cases this
    obtain ⟨u2, hu2⟩ := hex
    obtain ⟨u0, p, a1, a2, a3, a4, a5⟩ := zm_tt_s hu2
    rw [hu] at a1
    cases a1
    have n1 := zp_R_nameOf s w (k := j) (by omega)
    have n2 := zp_R_nameOf s w (k := j + 1) (by omega)
    rw [if_pos (by omega)] at n1
    rw [if_pos (by omega)] at n2
    have hb : zp_nk w j < 256 := by have := zn_byte_lt w j; unfold zp_nk; omega
    have hb2 : zp_nk w (j + 1) < 256 := by have := zn_byte_lt w (j + 1); unfold zp_nk; omega
    have uT := zp_tt_lt K htT hu
    have pl := (zd_pl_lt a3).1
    have hz := zd_ok_sz K u (by omega)
    rcases zm_bean_val K a2 (zm_wk_val K ht ho hto j u V hu hV) with c | ⟨o2, h1, h2, h4⟩
    · have wn : zm_wk A t w o (zp_st w) = none := by
        have := zm_wk_none (k := j + 1) (by rw [zm_wk_s, hV]; exact if_pos c) (zp_st w - (j + 1))
        rwa [show j + 1 + (zp_st w - (j + 1)) = zp_st w by omega] at this
      show zs_Ref_valueOf_L52_body _ x1 x2 x3 w (nI u) V (nI j) s = _
      rw [wn, c]
      simp (disch := omega) only [zs_Ref_valueOf_L52_body, n1, ↓zd_bnd, ↓zy_bm, if_true, if_false, ite_true, ite_false, ↓reduceIte, Bool.false_eq_true, Bool.true_eq_false, eq_self, true_and, and_true, false_and, and_false, reduceCtorEq, decide_true, decide_false, not_true_eq_false, not_false_eq_true, ze_ltT, ze_ltF, ze_leT, ze_leF, ze_eqT, ze_eqF, ze_mlt, ze_ltm, ze_mle, ze_lem, ze_meq, ze_eqm, ze_mm, ze_mltm, ze_inT, ze_inF, ze_inM, ze_cl, ze_fin, ze_decT, ze_decF, Nat.reduceSub, Nat.reduceMul, nI_add, Nat.add_sub_cancel, Nat.add_assoc, Nat.reduceAdd, ze_r8, ze_r24, ze_r40, ze_r400, ze_l8, ze_l16, ze_l24, ze_l40, ze_sub, ze_am1, ze_es, ze_en, ze_i64, ze_m64, ze_64i, ze_64m, ze_LltT, ze_LltF, ze_LleT, ze_LleF, ze_LeqT, ze_LeqF, ze_Lmlt, ze_Lltm, ze_Lmle, ze_Llem, ze_Lmeq, ze_Leqm, ze_Lmm, lN_add, ze_ch, ze_chd, ze_bt, ze_bf, ze_n0, ze_n1, ze_n2, ze_n3, ze_n4, ze_n5, ze_n6, ze_n7, ze_n8, ze_n9, ze_n10, ze_n11, ze_n12, ze_n13, ze_n14, ze_n15, ze_n16, ze_n17, ze_n18, ze_n19, ze_n20, ze_n21, ze_n22, ze_n23, ze_n24, ze_n25, ze_n26, ze_n27, ze_n28, ze_n29, ze_n30, ze_n31, ze_n32, ze_n33, ze_n34, ze_n35, ze_n36, ze_n37, ze_n38, ze_n39, ze_n40, ze_n48, ze_n63, ze_n64, ze_n65, ze_n80, ze_n100, ze_n128, ze_n200, ze_n255, ze_n300, ze_n320, ze_n384, ze_n400, ze_n512, ze_n1023, ze_n1600, ze_n6400, ze_n9600, ze_n32768, ze_n65535, ze_n65536, ze_n802, ze_n8191, ze_L0, ze_L1, ze_L2, ze_L3, ze_L4, ze_L5, ze_L6, ze_L7, ze_L8, ze_L9, ze_L10, ze_L15, ze_L16, ze_L24, ze_L40, ze_L48, ze_L63, ze_L64, ze_L127, ze_L255, ze_L400, ze_L1024, ze_L2047, ze_L65535]
    · have hne : ¬ V = -lN 1 := by rw [h4]; simp (disch := omega) only [↓zd_bnd, ↓zy_bm, if_true, if_false, ite_true, ite_false, ↓reduceIte, Bool.false_eq_true, Bool.true_eq_false, eq_self, true_and, and_true, false_and, and_false, reduceCtorEq, decide_true, decide_false, not_true_eq_false, not_false_eq_true, ze_ltT, ze_ltF, ze_leT, ze_leF, ze_eqT, ze_eqF, ze_mlt, ze_ltm, ze_mle, ze_lem, ze_meq, ze_eqm, ze_mm, ze_mltm, ze_inT, ze_inF, ze_inM, ze_cl, ze_fin, ze_decT, ze_decF, Nat.reduceSub, Nat.reduceMul, nI_add, Nat.add_sub_cancel, Nat.add_assoc, Nat.reduceAdd, ze_r8, ze_r24, ze_r40, ze_r400, ze_l8, ze_l16, ze_l24, ze_l40, ze_sub, ze_am1, ze_es, ze_en, ze_i64, ze_m64, ze_64i, ze_64m, ze_LltT, ze_LltF, ze_LleT, ze_LleF, ze_LeqT, ze_LeqF, ze_Lmlt, ze_Lltm, ze_Lmle, ze_Llem, ze_Lmeq, ze_Leqm, ze_Lmm, lN_add, ze_ch, ze_chd, ze_bt, ze_bf, ze_n0, ze_n1, ze_n2, ze_n3, ze_n4, ze_n5, ze_n6, ze_n7, ze_n8, ze_n9, ze_n10, ze_n11, ze_n12, ze_n13, ze_n14, ze_n15, ze_n16, ze_n17, ze_n18, ze_n19, ze_n20, ze_n21, ze_n22, ze_n23, ze_n24, ze_n25, ze_n26, ze_n27, ze_n28, ze_n29, ze_n30, ze_n31, ze_n32, ze_n33, ze_n34, ze_n35, ze_n36, ze_n37, ze_n38, ze_n39, ze_n40, ze_n48, ze_n63, ze_n64, ze_n65, ze_n80, ze_n100, ze_n128, ze_n200, ze_n255, ze_n300, ze_n320, ze_n384, ze_n400, ze_n512, ze_n1023, ze_n1600, ze_n6400, ze_n9600, ze_n32768, ze_n65535, ze_n65536, ze_n802, ze_n8191, ze_L0, ze_L1, ze_L2, ze_L3, ze_L4, ze_L5, ze_L6, ze_L7, ze_L8, ze_L9, ze_L10, ze_L15, ze_L16, ze_L24, ze_L40, ze_L48, ze_L63, ze_L64, ze_L127, ze_L255, ze_L400, ze_L1024, ze_L2047, ze_L65535]
      have l4 := zd_ok_l4 K o2 h1 (by rw [h2]; exact a2)
      have hpl := (zk_zs_Ref_placeOf (zm_R_sf X) (nI u) (nI (zp_nk w j))).trans (zd_R_placeOf H K uT (nI (zp_nk w j)))
      rw [a3] at hpl
      have hpl : zs_Ref_placeOf (nI u) (nI (zp_nk w j)) s = some (nI p) := hpl
      have r42 : s.2 42 0 (16 * o2 + p) = zd_vl A o2 p := (X.1.2.2.2.1 _ (by omega)).trans (zd_R_vl H o2 p h1 (by rw [l4.1, h2]; exact pl) (by have := zd_ok_s2 K; intro z; rw [h2] at z; rw [z] at a2; omega))
      have c28 := (X.1.1 28 (by decide) (by decide)).1
      have wn : zm_wk A t w o (j + 1) = some (zd_vl A o2 p) := by
        rw [zm_wk_s, hV]
        show (if V = -lN 1 then none else _) = _
        rw [if_neg hne, h4, zm_ix K h1, a4]
      rw [← ih (j + 1) F _ u2 (by omega) (by omega) hu2 wn]
      show zs_Ref_valueOf_L52_body _ x1 x2 x3 w (nI u) V (nI j) s = _
      rw [h4, a5]
      simp (disch := omega) only [zs_Ref_valueOf_L52_body, n1, n2, hpl, r42, c28, zd_R_pt H, ↓zd_bnd, ↓zy_bm, if_true, if_false, ite_true, ite_false, ↓reduceIte, Bool.false_eq_true, Bool.true_eq_false, eq_self, true_and, and_true, false_and, and_false, reduceCtorEq, decide_true, decide_false, not_true_eq_false, not_false_eq_true, ze_ltT, ze_ltF, ze_leT, ze_leF, ze_eqT, ze_eqF, ze_mlt, ze_ltm, ze_mle, ze_lem, ze_meq, ze_eqm, ze_mm, ze_mltm, ze_inT, ze_inF, ze_inM, ze_cl, ze_fin, ze_decT, ze_decF, Nat.reduceSub, Nat.reduceMul, nI_add, Nat.add_sub_cancel, Nat.add_assoc, Nat.reduceAdd, ze_r8, ze_r24, ze_r40, ze_r400, ze_l8, ze_l16, ze_l24, ze_l40, ze_sub, ze_am1, ze_es, ze_en, ze_i64, ze_m64, ze_64i, ze_64m, ze_LltT, ze_LltF, ze_LleT, ze_LleF, ze_LeqT, ze_LeqF, ze_Lmlt, ze_Lltm, ze_Lmle, ze_Llem, ze_Lmeq, ze_Leqm, ze_Lmm, lN_add, ze_ch, ze_chd, ze_bt, ze_bf, ze_n0, ze_n1, ze_n2, ze_n3, ze_n4, ze_n5, ze_n6, ze_n7, ze_n8, ze_n9, ze_n10, ze_n11, ze_n12, ze_n13, ze_n14, ze_n15, ze_n16, ze_n17, ze_n18, ze_n19, ze_n20, ze_n21, ze_n22, ze_n23, ze_n24, ze_n25, ze_n26, ze_n27, ze_n28, ze_n29, ze_n30, ze_n31, ze_n32, ze_n33, ze_n34, ze_n35, ze_n36, ze_n37, ze_n38, ze_n39, ze_n40, ze_n48, ze_n63, ze_n64, ze_n65, ze_n80, ze_n100, ze_n128, ze_n200, ze_n255, ze_n300, ze_n320, ze_n384, ze_n400, ze_n512, ze_n1023, ze_n1600, ze_n6400, ze_n9600, ze_n32768, ze_n65535, ze_n65536, ze_n802, ze_n8191, ze_L0, ze_L1, ze_L2, ze_L3, ze_L4, ze_L5, ze_L6, ze_L7, ze_L8, ze_L9, ze_L10, ze_L15, ze_L16, ze_L24, ze_L40, ze_L48, ze_L63, ze_L64, ze_L127, ze_L255, ze_L400, ze_L1024, ze_L2047, ze_L65535]
      rfl
