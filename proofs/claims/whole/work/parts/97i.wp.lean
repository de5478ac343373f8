/-! what is wrong with a property, in the reference -/
def zp_rok (A : zd_A) (m : Nat) : Prop := ∀ r, r < zd_rc A m → zp_wr A m r = 0
theorem zp_rok_0 {A : zd_A} {m : Nat} (R : zp_rok A m) {x : Int32} {r : Nat} (h : zp_fr A m 0 x = some r) : zp_end A (zd_mf A m) (zd_wh A m r) ≠ none := by
  obtain ⟨h1, h2, h3⟩ := zp_fr_lt h
  have e := R r h1
  unfold zp_wr at e
  rw [if_pos (by omega)] at e
  by_cases c1 : (zp_rep A m r).isSome = true
  · rw [if_pos c1] at e; omega
  · rw [if_neg c1, if_neg (by omega)] at e
    by_cases c2 : zd_srt A (zd_mt A m) = 4
    · rw [if_pos c2] at e
      by_cases c3 : zd_pl A (zd_mt A m) (zd_tg A m r) = none
      · rw [if_pos c3] at e; omega
      · rw [if_neg c3] at e
        unfold zp_w4 at e
        rw [if_pos h2] at e
        intro z
        rw [if_pos z] at e
        omega
    · rw [if_neg c2] at e; omega
theorem zp_rok_4 {A : zd_A} {m : Nat} (R : zp_rok A m) {x : Int32} {r : Nat} (h : zp_fr A m 4 x = some r) : ∃ f, zp_fn A (zd_wh A m r) = some f := by
  obtain ⟨h1, h2, h3⟩ := zp_fr_lt h
  have e := R r h1
  unfold zp_wr at e
  rw [if_pos (by omega)] at e
  by_cases c1 : (zp_rep A m r).isSome = true
  · rw [if_pos c1] at e; omega
  · rw [if_neg c1, if_neg (by omega)] at e
    by_cases c2 : zd_srt A (zd_mt A m) = 4
    · rw [if_pos c2] at e
      by_cases c3 : zd_pl A (zd_mt A m) (zd_tg A m r) = none
      · rw [if_pos c3] at e; omega
      · rw [if_neg c3] at e
        unfold zp_w4 at e
        rw [if_neg (by omega), if_pos h2] at e
        cases f : zp_fn A (zd_wh A m r) with
        | none => rw [if_pos f] at e; omega
        | some g => exact ⟨g, rfl⟩
    · rw [if_neg c2] at e; omega
theorem zp_rok_5 {A : zd_A} {m : Nat} (R : zp_rok A m) {r : Nat} (h1 : r < zd_rc A m) (h2 : zd_kd A m r = 5) : zd_wh A m r = -lN 1 ∨ ∃ q, zp_plL A (zd_mt A m) (zd_wh A m r) = some q := by
  have e := R r h1
  unfold zp_wr at e
  rw [if_pos (by omega)] at e
  by_cases c1 : (zp_rep A m r).isSome = true
  · rw [if_pos c1] at e; omega
  · rw [if_neg c1, if_pos h2] at e
    by_cases c2 : zd_srt A (zd_mt A m) = 4
    · rw [if_pos c2] at e; omega
    · rw [if_neg c2] at e
      by_cases c3 : zd_pl A (zd_mf A m) (zd_tg A m r) = none
      · rw [if_pos c3] at e; omega
      · rw [if_neg c3] at e
        unfold zp_w4 at e
        rw [if_neg (by omega), if_neg (by omega), if_pos h2] at e
        by_cases c4 : zd_wh A m r = -lN 1
        · exact Or.inl c4
        · rw [if_neg c4] at e
          cases f : zp_plL A (zd_mt A m) (zd_wh A m r) with
          | none => rw [if_pos f] at e; omega
          | some q => exact Or.inr ⟨q, rfl⟩
theorem zp_rok_6 {A : zd_A} {m : Nat} (R : zp_rok A m) {r : Nat} (h1 : r < zd_rc A m) (h2 : zd_kd A m r = 6) : zd_wh A m r = -lN 1 ∨ zd_wh A m r = -lN 2 ∨ ∃ q, zp_plL A (zd_mt A m) (zd_wh A m r) = some q := by
  have e := R r h1
  unfold zp_wr at e
  rw [if_neg (by omega)] at e
  unfold zp_w4 at e
  rw [if_neg (by omega), if_neg (by omega), if_neg (by omega), if_pos h2] at e
  by_cases c2 : zd_srt A (zd_mt A m) = 4
  · rw [if_pos c2] at e; omega
  · rw [if_neg c2] at e
    by_cases c4 : zd_wh A m r = -lN 1
    · exact Or.inl c4
    · rw [if_neg c4] at e
      by_cases c5 : zd_wh A m r = -lN 2
      · exact Or.inr (Or.inl c5)
      · rw [if_neg c5] at e
        cases f : zp_plL A (zd_mt A m) (zd_wh A m r) with
        | none => rw [if_pos f] at e; omega
        | some q => exact Or.inr (Or.inr ⟨q, rfl⟩)
theorem zp_src_end {A : zd_A} (K : zd_ok A) {m n : Nat} (hm : m < zd_M A) (hn : n < 64) (hs : zd_srt A (zd_mf A m) = 4) (R : zp_rok A m) {w : Int64} (h : zp_src A m n = some w) : ∃ e, zp_end A (zd_mf A m) w = some e := by
  have hme := zd_ok_m K m hm
  have key : ∀ w, zp_end A (zd_mf A m) w ≠ none → ∃ e, zp_end A (zd_mf A m) w = some e := fun w z => by
    cases e : zp_end A (zd_mf A m) w with
    | none => exact absurd e z
    | some g => exact ⟨g, rfl⟩
  have one : ∀ k q, k < 64 → zd_pl A (zd_mf A m) (nI k) = some q → ∃ e, zp_end A (zd_mf A m) (lN (k + 1)) = some e := fun k q hk hq => by
    rw [zp_end1 A _ hk, if_pos hs, hq]
    exact ⟨_, rfl⟩
  have by0 : ∀ w, zp_by A m n = some w → ∃ e, zp_end A (zd_mf A m) w = some e := fun w z => by
    unfold zp_by at z
    cases e : zd_pl A (zd_mf A m) (nI n) with
    | none => rw [e] at z; cases z
    | some q =>
      rw [e] at z
      have z : some (lN (n + 1)) = some w := z
      cases z
      exact one n q hn e
  unfold zp_src at h
  cases e0 : zp_fr A m 0 (nI n) with
  | some r =>
    rw [e0] at h
    have h : some (zd_wh A m r) = some w := h
    cases h
    exact key _ (zp_rok_0 R e0)
  | none =>
    rw [e0] at h
    cases ei : zp_iv A m with
    | none => rw [ei] at h; exact by0 w h
    | some io =>
      cases io with
      | none => rw [ei] at h; exact by0 w h
      | some o =>
        rw [ei] at h
        have h : zp_inv A m n o = some w := h
        unfold zp_inv at h
        cases e3 : zd_first (zp_ic A o n) (zd_rc A o) with
        | none => rw [e3] at h; exact by0 w h
        | some r =>
          rw [e3] at h
          have h : (match zd_pl A (zd_mf A m) (zd_tg A o r) with | none => zp_by A m n | some q => some (lN (zd_nm A (zd_mf A m) q + 1))) = some w := h
          cases e4 : zd_pl A (zd_mf A m) (zd_tg A o r) with
          | none => rw [e4] at h; exact by0 w h
          | some q =>
            rw [e4] at h
            have h : some (lN (zd_nm A (zd_mf A m) q + 1)) = some w := h
            cases h
            obtain ⟨q1, q2⟩ := zd_pl_lt e4
            rw [← q2] at e4
            exact one _ q (zd_ok_nm K _ q hme.1 q1) e4
theorem zp_end_ne0 {A : zd_A} {t e : Nat} {w : Int64} (h : zp_end A t w = some e) : w ≠ lN 0 := by
  intro z
  subst z
  unfold zp_end at h
  have : zp_st (lN 0) = 0 := by decide
  rw [if_pos this] at h
  cases h
theorem zp_wrongWay {A : zd_A} (K : zd_ok A) (h : zx_H) (a b : Nat) : zs_Ref_wrongWay (zp_rw (zp_hw A a b)) h = some (nI (zp_ww (zp_hw A a b))) := by
  have hM := zd_ok_M K
  have hF := zd_ok_F K
  have r := zp_hw_rng K a b
  unfold zp_ww
  by_cases h0 : zp_hw A a b = 0
  · rw [if_pos h0, h0, zp_rw0]
    simp (disch := omega) only [zs_Ref_wrongWay, ↓zd_bnd, ↓zy_bm, if_true, if_false, ite_true, ite_false, ↓reduceIte, Bool.false_eq_true, Bool.true_eq_false, eq_self, true_and, and_true, false_and, and_false, reduceCtorEq, decide_true, decide_false, not_true_eq_false, not_false_eq_true, ze_ltT, ze_ltF, ze_leT, ze_leF, ze_eqT, ze_eqF, ze_mlt, ze_ltm, ze_mle, ze_lem, ze_meq, ze_eqm, ze_mm, ze_mltm, ze_inT, ze_inF, ze_inM, ze_cl, ze_fin, ze_decT, ze_decF, Nat.reduceSub, Nat.reduceMul, nI_add, Nat.add_sub_cancel, Nat.add_assoc, Nat.reduceAdd, ze_r8, ze_r24, ze_r40, ze_r400, ze_l8, ze_l16, ze_l24, ze_l40, ze_sub, ze_am1, ze_es, ze_en, ze_i64, ze_m64, ze_64i, ze_64m, ze_LltT, ze_LltF, ze_LleT, ze_LleF, ze_LeqT, ze_LeqF, ze_Lmlt, ze_Lltm, ze_Lmle, ze_Llem, ze_Lmeq, ze_Leqm, ze_Lmm, lN_add, ze_ch, ze_chd, ze_bt, ze_bf, ze_n0, ze_n1, ze_n2, ze_n3, ze_n4, ze_n5, ze_n6, ze_n7, ze_n8, ze_n9, ze_n10, ze_n11, ze_n12, ze_n13, ze_n14, ze_n15, ze_n16, ze_n17, ze_n18, ze_n19, ze_n20, ze_n21, ze_n22, ze_n23, ze_n24, ze_n25, ze_n26, ze_n27, ze_n28, ze_n29, ze_n30, ze_n31, ze_n32, ze_n33, ze_n34, ze_n35, ze_n36, ze_n37, ze_n38, ze_n39, ze_n40, ze_n48, ze_n63, ze_n64, ze_n65, ze_n80, ze_n100, ze_n128, ze_n200, ze_n255, ze_n300, ze_n320, ze_n384, ze_n400, ze_n512, ze_n1023, ze_n1600, ze_n6400, ze_n9600, ze_n32768, ze_n65535, ze_n65536, ze_n802, ze_n8191, ze_L0, ze_L1, ze_L2, ze_L3, ze_L4, ze_L5, ze_L6, ze_L7, ze_L8, ze_L9, ze_L10, ze_L15, ze_L16, ze_L24, ze_L40, ze_L48, ze_L63, ze_L64, ze_L127, ze_L255, ze_L400, ze_L1024, ze_L2047, ze_L65535]
  · rw [if_neg h0]
    by_cases h1 : zp_hw A a b = 1
    · rw [if_pos h1, h1, zp_rw1]
      simp (disch := omega) only [zs_Ref_wrongWay, ze_m2m1, ↓zd_bnd, ↓zy_bm, if_true, if_false, ite_true, ite_false, ↓reduceIte, Bool.false_eq_true, Bool.true_eq_false, eq_self, true_and, and_true, false_and, and_false, reduceCtorEq, decide_true, decide_false, not_true_eq_false, not_false_eq_true, ze_ltT, ze_ltF, ze_leT, ze_leF, ze_eqT, ze_eqF, ze_mlt, ze_ltm, ze_mle, ze_lem, ze_meq, ze_eqm, ze_mm, ze_mltm, ze_inT, ze_inF, ze_inM, ze_cl, ze_fin, ze_decT, ze_decF, Nat.reduceSub, Nat.reduceMul, nI_add, Nat.add_sub_cancel, Nat.add_assoc, Nat.reduceAdd, ze_r8, ze_r24, ze_r40, ze_r400, ze_l8, ze_l16, ze_l24, ze_l40, ze_sub, ze_am1, ze_es, ze_en, ze_i64, ze_m64, ze_64i, ze_64m, ze_LltT, ze_LltF, ze_LleT, ze_LleF, ze_LeqT, ze_LeqF, ze_Lmlt, ze_Lltm, ze_Lmle, ze_Llem, ze_Lmeq, ze_Leqm, ze_Lmm, lN_add, ze_ch, ze_chd, ze_bt, ze_bf, ze_n0, ze_n1, ze_n2, ze_n3, ze_n4, ze_n5, ze_n6, ze_n7, ze_n8, ze_n9, ze_n10, ze_n11, ze_n12, ze_n13, ze_n14, ze_n15, ze_n16, ze_n17, ze_n18, ze_n19, ze_n20, ze_n21, ze_n22, ze_n23, ze_n24, ze_n25, ze_n26, ze_n27, ze_n28, ze_n29, ze_n30, ze_n31, ze_n32, ze_n33, ze_n34, ze_n35, ze_n36, ze_n37, ze_n38, ze_n39, ze_n40, ze_n48, ze_n63, ze_n64, ze_n65, ze_n80, ze_n100, ze_n128, ze_n200, ze_n255, ze_n300, ze_n320, ze_n384, ze_n400, ze_n512, ze_n1023, ze_n1600, ze_n6400, ze_n9600, ze_n32768, ze_n65535, ze_n65536, ze_n802, ze_n8191, ze_L0, ze_L1, ze_L2, ze_L3, ze_L4, ze_L5, ze_L6, ze_L7, ze_L8, ze_L9, ze_L10, ze_L15, ze_L16, ze_L24, ze_L40, ze_L48, ze_L63, ze_L64, ze_L127, ze_L255, ze_L400, ze_L1024, ze_L2047, ze_L65535]
    · rw [if_neg h1]
      by_cases h2 : zp_hw A a b = 2
      · rw [h2]; rfl
      · by_cases h3 : zp_hw A a b = 3
        · rw [h3]; rfl
        · by_cases h4 : zp_hw A a b = 4
          · rw [h4]; rfl
          · rw [zp_rwn (by omega)]
            have n2 : (nI (zp_hw A a b) = -nI 2) = False := eq_false (fun z => by
              have q := ze_m2e (n := zp_hw A a b) (by omega)
              exact absurd z.symm (of_eq_false q))
            simp (disch := omega) only [zs_Ref_wrongWay, n2, ↓zd_bnd, ↓zy_bm, if_true, if_false, ite_true, ite_false, ↓reduceIte, Bool.false_eq_true, Bool.true_eq_false, eq_self, true_and, and_true, false_and, and_false, reduceCtorEq, decide_true, decide_false, not_true_eq_false, not_false_eq_true, ze_ltT, ze_ltF, ze_leT, ze_leF, ze_eqT, ze_eqF, ze_mlt, ze_ltm, ze_mle, ze_lem, ze_meq, ze_eqm, ze_mm, ze_mltm, ze_inT, ze_inF, ze_inM, ze_cl, ze_fin, ze_decT, ze_decF, Nat.reduceSub, Nat.reduceMul, nI_add, Nat.add_sub_cancel, Nat.add_assoc, Nat.reduceAdd, ze_r8, ze_r24, ze_r40, ze_r400, ze_l8, ze_l16, ze_l24, ze_l40, ze_sub, ze_am1, ze_es, ze_en, ze_i64, ze_m64, ze_64i, ze_64m, ze_LltT, ze_LltF, ze_LleT, ze_LleF, ze_LeqT, ze_LeqF, ze_Lmlt, ze_Lltm, ze_Lmle, ze_Llem, ze_Lmeq, ze_Leqm, ze_Lmm, lN_add, ze_ch, ze_chd, ze_bt, ze_bf, ze_n0, ze_n1, ze_n2, ze_n3, ze_n4, ze_n5, ze_n6, ze_n7, ze_n8, ze_n9, ze_n10, ze_n11, ze_n12, ze_n13, ze_n14, ze_n15, ze_n16, ze_n17, ze_n18, ze_n19, ze_n20, ze_n21, ze_n22, ze_n23, ze_n24, ze_n25, ze_n26, ze_n27, ze_n28, ze_n29, ze_n30, ze_n31, ze_n32, ze_n33, ze_n34, ze_n35, ze_n36, ze_n37, ze_n38, ze_n39, ze_n40, ze_n48, ze_n63, ze_n64, ze_n65, ze_n80, ze_n100, ze_n128, ze_n200, ze_n255, ze_n300, ze_n320, ze_n384, ze_n400, ze_n512, ze_n1023, ze_n1600, ze_n6400, ze_n9600, ze_n32768, ze_n65535, ze_n65536, ze_n802, ze_n8191, ze_L0, ze_L1, ze_L2, ze_L3, ze_L4, ze_L5, ze_L6, ze_L7, ze_L8, ze_L9, ze_L10, ze_L15, ze_L16, ze_L24, ze_L40, ze_L48, ze_L63, ze_L64, ze_L127, ze_L255, ze_L400, ze_L1024, ze_L2047, ze_L65535]
theorem zp_ww7 (w : Nat) : zp_ww w < 8 := by
  unfold zp_ww
  by_cases h0 : w = 0
  · rw [if_pos h0]; omega
  · rw [if_neg h0]
    by_cases h1 : w = 1
    · rw [if_pos h1]; omega
    · rw [if_neg h1]; omega
theorem zp_eoS {b r : Nat} (hb : b + r < 2147483648) : (zp_eo b (some r) < nI 0) = False := ze_ltF (Nat.zero_le _) hb
theorem zp_R_wp {A : zd_A} {h : zx_H} (H : zd_R A h) (K : zd_ok A) {m p : Nat} (hm : m < zd_M A) (hp : p < zd_sz A (zd_mt A m)) (hs : zd_srt A (zd_mt A m) = 4) (hi : zp_ivb A m = true) (R : zp_rok A m) : zs_Ref_wrongProperty (nI m) (nI p) h = some (nI (zp_wp A m p)) := by
  have hT := zd_ok_T K
  have hM := zd_ok_M K
  have hme := zd_ok_m K m hm
  have hsf : zd_srt A (zd_mf A m) = 4 := by omega
  have hz := zd_ok_sz K (zd_mt A m) (by omega)
  have hnm := zd_ok_nm K (zd_mt A m) p hme.2.1 hp
  have hpt := zd_ok_pt K (zd_mt A m) p hme.2.1 hp hs
  have hr24 := zd_ok_rc K m (by omega)
  have hF := zd_ok_F K
  have en : zp_n A m p = zd_nm A (zd_mt A m) p := rfl
  have ey : zp_y A m p = zd_pt A (zd_mt A m) p := rfl
  have po := zp_R_pathOf H K (n := zd_nm A (zd_mt A m) p) hm hnm hi
  have w4 := zp_wrongWay K h 4 (zd_pt A (zd_mt A m) p)
  have h74 := zp_ww7 (zp_hw A 4 (zd_pt A (zd_mt A m) p))
  unfold zp_wp zp_w1 zp_w2
  rw [en, ey]
  cases f2 : zp_fr A m 2 (nI (zd_nm A (zd_mt A m) p)) with
  | some r =>
    have hr := (zp_fr_lt f2).1
    have e0 : (if (if (some r).isSome = true then 0 else if (zp_fr A m 1 (nI (zd_nm A (zd_mt A m) p))).isSome = true then zp_ww (zp_hw A 4 (zd_pt A (zd_mt A m) p)) else zp_wc A m p) ≠ 0 then (if (some r).isSome = true then 0 else if (zp_fr A m 1 (nI (zd_nm A (zd_mt A m) p))).isSome = true then zp_ww (zp_hw A 4 (zd_pt A (zd_mt A m) p)) else zp_wc A m p) else (if (some r).isSome = true then 0 else if (zp_fr A m 1 (nI (zd_nm A (zd_mt A m) p))).isSome = true then 0 else if (zp_fr A m 3 (nI (zd_nm A (zd_mt A m) p))).isSome = true then zp_ww (zp_hw A 4 (zd_pt A (zd_mt A m) p)) else 0)) = 0 := by
      rw [if_pos (show (some r).isSome = true from rfl), if_pos (show (some r).isSome = true from rfl), if_neg (fun z => z rfl)]
    rw [e0]
    simp (disch := omega) only [zs_Ref_wrongProperty, zd_R_mt H, zd_R_nm H, zd_R_pt H, zp_R_first H K hm, hs, f2, zp_eoS, ↓zd_bnd, ↓zy_bm, if_true, if_false, ite_true, ite_false, ↓reduceIte, Bool.false_eq_true, Bool.true_eq_false, eq_self, true_and, and_true, false_and, and_false, reduceCtorEq, decide_true, decide_false, not_true_eq_false, not_false_eq_true, ze_ltT, ze_ltF, ze_leT, ze_leF, ze_eqT, ze_eqF, ze_mlt, ze_ltm, ze_mle, ze_lem, ze_meq, ze_eqm, ze_mm, ze_mltm, ze_inT, ze_inF, ze_inM, ze_cl, ze_fin, ze_decT, ze_decF, Nat.reduceSub, Nat.reduceMul, nI_add, Nat.add_sub_cancel, Nat.add_assoc, Nat.reduceAdd, ze_r8, ze_r24, ze_r40, ze_r400, ze_l8, ze_l16, ze_l24, ze_l40, ze_sub, ze_am1, ze_es, ze_en, ze_i64, ze_m64, ze_64i, ze_64m, ze_LltT, ze_LltF, ze_LleT, ze_LleF, ze_LeqT, ze_LeqF, ze_Lmlt, ze_Lltm, ze_Lmle, ze_Llem, ze_Lmeq, ze_Leqm, ze_Lmm, lN_add, ze_ch, ze_chd, ze_bt, ze_bf, ze_n0, ze_n1, ze_n2, ze_n3, ze_n4, ze_n5, ze_n6, ze_n7, ze_n8, ze_n9, ze_n10, ze_n11, ze_n12, ze_n13, ze_n14, ze_n15, ze_n16, ze_n17, ze_n18, ze_n19, ze_n20, ze_n21, ze_n22, ze_n23, ze_n24, ze_n25, ze_n26, ze_n27, ze_n28, ze_n29, ze_n30, ze_n31, ze_n32, ze_n33, ze_n34, ze_n35, ze_n36, ze_n37, ze_n38, ze_n39, ze_n40, ze_n48, ze_n63, ze_n64, ze_n65, ze_n80, ze_n100, ze_n128, ze_n200, ze_n255, ze_n300, ze_n320, ze_n384, ze_n400, ze_n512, ze_n1023, ze_n1600, ze_n6400, ze_n9600, ze_n32768, ze_n65535, ze_n65536, ze_n802, ze_n8191, ze_L0, ze_L1, ze_L2, ze_L3, ze_L4, ze_L5, ze_L6, ze_L7, ze_L8, ze_L9, ze_L10, ze_L15, ze_L16, ze_L24, ze_L40, ze_L48, ze_L63, ze_L64, ze_L127, ze_L255, ze_L400, ze_L1024, ze_L2047, ze_L65535]
  | none =>
    rw [if_neg (show ¬ ((none : Option Nat).isSome = true) by decide), if_neg (show ¬ ((none : Option Nat).isSome = true) by decide)]
    cases f1 : zp_fr A m 1 (nI (zd_nm A (zd_mt A m) p)) with
    | some r =>
      have hr := (zp_fr_lt f1).1
      rw [if_pos (show (some r).isSome = true from rfl), if_pos (show (some r).isSome = true from rfl)]
      have e0 : (if zp_ww (zp_hw A 4 (zd_pt A (zd_mt A m) p)) ≠ 0 then zp_ww (zp_hw A 4 (zd_pt A (zd_mt A m) p)) else 0) = zp_ww (zp_hw A 4 (zd_pt A (zd_mt A m) p)) := by
        by_cases z : zp_ww (zp_hw A 4 (zd_pt A (zd_mt A m) p)) = 0
        · rw [if_neg (fun q => q z), z]
        · rw [if_pos z]
      rw [e0]
      simp (disch := omega) only [zs_Ref_wrongProperty, zd_R_mt H, zd_R_nm H, zd_R_pt H, zp_R_first H K hm, hs, f1, f2, zp_eoS, zp_eo, ze_ltm1, zp_R_how H K (a := 4), w4, ↓zd_bnd, ↓zy_bm, if_true, if_false, ite_true, ite_false, ↓reduceIte, Bool.false_eq_true, Bool.true_eq_false, eq_self, true_and, and_true, false_and, and_false, reduceCtorEq, decide_true, decide_false, not_true_eq_false, not_false_eq_true, ze_ltT, ze_ltF, ze_leT, ze_leF, ze_eqT, ze_eqF, ze_mlt, ze_ltm, ze_mle, ze_lem, ze_meq, ze_eqm, ze_mm, ze_mltm, ze_inT, ze_inF, ze_inM, ze_cl, ze_fin, ze_decT, ze_decF, Nat.reduceSub, Nat.reduceMul, nI_add, Nat.add_sub_cancel, Nat.add_assoc, Nat.reduceAdd, ze_r8, ze_r24, ze_r40, ze_r400, ze_l8, ze_l16, ze_l24, ze_l40, ze_sub, ze_am1, ze_es, ze_en, ze_i64, ze_m64, ze_64i, ze_64m, ze_LltT, ze_LltF, ze_LleT, ze_LleF, ze_LeqT, ze_LeqF, ze_Lmlt, ze_Lltm, ze_Lmle, ze_Llem, ze_Lmeq, ze_Leqm, ze_Lmm, lN_add, ze_ch, ze_chd, ze_bt, ze_bf, ze_n0, ze_n1, ze_n2, ze_n3, ze_n4, ze_n5, ze_n6, ze_n7, ze_n8, ze_n9, ze_n10, ze_n11, ze_n12, ze_n13, ze_n14, ze_n15, ze_n16, ze_n17, ze_n18, ze_n19, ze_n20, ze_n21, ze_n22, ze_n23, ze_n24, ze_n25, ze_n26, ze_n27, ze_n28, ze_n29, ze_n30, ze_n31, ze_n32, ze_n33, ze_n34, ze_n35, ze_n36, ze_n37, ze_n38, ze_n39, ze_n40, ze_n48, ze_n63, ze_n64, ze_n65, ze_n80, ze_n100, ze_n128, ze_n200, ze_n255, ze_n300, ze_n320, ze_n384, ze_n400, ze_n512, ze_n1023, ze_n1600, ze_n6400, ze_n9600, ze_n32768, ze_n65535, ze_n65536, ze_n802, ze_n8191, ze_L0, ze_L1, ze_L2, ze_L3, ze_L4, ze_L5, ze_L6, ze_L7, ze_L8, ze_L9, ze_L10, ze_L15, ze_L16, ze_L24, ze_L40, ze_L48, ze_L63, ze_L64, ze_L127, ze_L255, ze_L400, ze_L1024, ze_L2047, ze_L65535]
    | none =>
      rw [if_neg (show ¬ ((none : Option Nat).isSome = true) by decide), if_neg (show ¬ ((none : Option Nat).isSome = true) by decide)]
      unfold zp_wc
      rw [en, ey]
      cases es : zp_src A m (zd_nm A (zd_mt A m) p) with
      | none =>
        rw [es] at po
        have po : zs_Ref_pathOf (nI m) (nI (zd_nm A (zd_mt A m) p)) h = some (lN 0) := po
        show _ = some (nI (if (5 : Nat) ≠ 0 then 5 else _))
        rw [if_pos (by decide)]
        simp (disch := omega) only [zs_Ref_wrongProperty, zd_R_mt H, zd_R_nm H, zd_R_pt H, zp_R_first H K hm, hs, f1, f2, zp_eo, ze_ltm1, po, ↓zd_bnd, ↓zy_bm, if_true, if_false, ite_true, ite_false, ↓reduceIte, Bool.false_eq_true, Bool.true_eq_false, eq_self, true_and, and_true, false_and, and_false, reduceCtorEq, decide_true, decide_false, not_true_eq_false, not_false_eq_true, ze_ltT, ze_ltF, ze_leT, ze_leF, ze_eqT, ze_eqF, ze_mlt, ze_ltm, ze_mle, ze_lem, ze_meq, ze_eqm, ze_mm, ze_mltm, ze_inT, ze_inF, ze_inM, ze_cl, ze_fin, ze_decT, ze_decF, Nat.reduceSub, Nat.reduceMul, nI_add, Nat.add_sub_cancel, Nat.add_assoc, Nat.reduceAdd, ze_r8, ze_r24, ze_r40, ze_r400, ze_l8, ze_l16, ze_l24, ze_l40, ze_sub, ze_am1, ze_es, ze_en, ze_i64, ze_m64, ze_64i, ze_64m, ze_LltT, ze_LltF, ze_LleT, ze_LleF, ze_LeqT, ze_LeqF, ze_Lmlt, ze_Lltm, ze_Lmle, ze_Llem, ze_Lmeq, ze_Leqm, ze_Lmm, lN_add, ze_ch, ze_chd, ze_bt, ze_bf, ze_n0, ze_n1, ze_n2, ze_n3, ze_n4, ze_n5, ze_n6, ze_n7, ze_n8, ze_n9, ze_n10, ze_n11, ze_n12, ze_n13, ze_n14, ze_n15, ze_n16, ze_n17, ze_n18, ze_n19, ze_n20, ze_n21, ze_n22, ze_n23, ze_n24, ze_n25, ze_n26, ze_n27, ze_n28, ze_n29, ze_n30, ze_n31, ze_n32, ze_n33, ze_n34, ze_n35, ze_n36, ze_n37, ze_n38, ze_n39, ze_n40, ze_n48, ze_n63, ze_n64, ze_n65, ze_n80, ze_n100, ze_n128, ze_n200, ze_n255, ze_n300, ze_n320, ze_n384, ze_n400, ze_n512, ze_n1023, ze_n1600, ze_n6400, ze_n9600, ze_n32768, ze_n65535, ze_n65536, ze_n802, ze_n8191, ze_L0, ze_L1, ze_L2, ze_L3, ze_L4, ze_L5, ze_L6, ze_L7, ze_L8, ze_L9, ze_L10, ze_L15, ze_L16, ze_L24, ze_L40, ze_L48, ze_L63, ze_L64, ze_L127, ze_L255, ze_L400, ze_L1024, ze_L2047, ze_L65535]
      | some w =>
        rw [es] at po
        have po : zs_Ref_pathOf (nI m) (nI (zd_nm A (zd_mt A m) p)) h = some w := po
        obtain ⟨e, ee⟩ := zp_src_end K hm hnm hsf R es
        have hne := zp_end_ne0 ee
        have he := zp_end_lt K hme.1 ee
        show _ = some (nI (if (match zp_end A (zd_mf A m) w with | none => 5 | some e => zp_wb A m (zd_nm A (zd_mt A m) p) e (zd_pt A (zd_mt A m) p)) ≠ 0 then (match zp_end A (zd_mf A m) w with | none => 5 | some e => zp_wb A m (zd_nm A (zd_mt A m) p) e (zd_pt A (zd_mt A m) p)) else _))
        rw [ee]
        show _ = some (nI (if zp_wb A m (zd_nm A (zd_mt A m) p) e (zd_pt A (zd_mt A m) p) ≠ 0 then zp_wb A m (zd_nm A (zd_mt A m) p) e (zd_pt A (zd_mt A m) p) else _))
        have j171 : ∀ s0, s0 < 8 → zs_Ref_wrongProperty_J171 h (nI m) (nI (zd_nm A (zd_mt A m) p)) (nI (zd_pt A (zd_mt A m) p)) (nI s0) = some (nI (if s0 ≠ 0 then s0 else if (zp_fr A m 3 (nI (zd_nm A (zd_mt A m) p))).isSome = true then zp_ww (zp_hw A 4 (zd_pt A (zd_mt A m) p)) else 0)) := fun s0 h8 => by
          by_cases z : s0 = 0
          · subst z
            rw [if_neg (fun q => q rfl)]
            cases f3 : zp_fr A m 3 (nI (zd_nm A (zd_mt A m) p)) with
            | none =>
              rw [if_neg (show ¬ ((none : Option Nat).isSome = true) by decide)]
              simp (disch := omega) only [zs_Ref_wrongProperty_J171, zs_Ref_wrongProperty_J188, zp_R_first H K hm, f3, zp_eo, ze_0lem1, ↓zd_bnd, ↓zy_bm, if_true, if_false, ite_true, ite_false, ↓reduceIte, Bool.false_eq_true, Bool.true_eq_false, eq_self, true_and, and_true, false_and, and_false, reduceCtorEq, decide_true, decide_false, not_true_eq_false, not_false_eq_true, ze_ltT, ze_ltF, ze_leT, ze_leF, ze_eqT, ze_eqF, ze_mlt, ze_ltm, ze_mle, ze_lem, ze_meq, ze_eqm, ze_mm, ze_mltm, ze_inT, ze_inF, ze_inM, ze_cl, ze_fin, ze_decT, ze_decF, Nat.reduceSub, Nat.reduceMul, nI_add, Nat.add_sub_cancel, Nat.add_assoc, Nat.reduceAdd, ze_r8, ze_r24, ze_r40, ze_r400, ze_l8, ze_l16, ze_l24, ze_l40, ze_sub, ze_am1, ze_es, ze_en, ze_i64, ze_m64, ze_64i, ze_64m, ze_LltT, ze_LltF, ze_LleT, ze_LleF, ze_LeqT, ze_LeqF, ze_Lmlt, ze_Lltm, ze_Lmle, ze_Llem, ze_Lmeq, ze_Leqm, ze_Lmm, lN_add, ze_ch, ze_chd, ze_bt, ze_bf, ze_n0, ze_n1, ze_n2, ze_n3, ze_n4, ze_n5, ze_n6, ze_n7, ze_n8, ze_n9, ze_n10, ze_n11, ze_n12, ze_n13, ze_n14, ze_n15, ze_n16, ze_n17, ze_n18, ze_n19, ze_n20, ze_n21, ze_n22, ze_n23, ze_n24, ze_n25, ze_n26, ze_n27, ze_n28, ze_n29, ze_n30, ze_n31, ze_n32, ze_n33, ze_n34, ze_n35, ze_n36, ze_n37, ze_n38, ze_n39, ze_n40, ze_n48, ze_n63, ze_n64, ze_n65, ze_n80, ze_n100, ze_n128, ze_n200, ze_n255, ze_n300, ze_n320, ze_n384, ze_n400, ze_n512, ze_n1023, ze_n1600, ze_n6400, ze_n9600, ze_n32768, ze_n65535, ze_n65536, ze_n802, ze_n8191, ze_L0, ze_L1, ze_L2, ze_L3, ze_L4, ze_L5, ze_L6, ze_L7, ze_L8, ze_L9, ze_L10, ze_L15, ze_L16, ze_L24, ze_L40, ze_L48, ze_L63, ze_L64, ze_L127, ze_L255, ze_L400, ze_L1024, ze_L2047, ze_L65535]
            | some r =>
              have hr := (zp_fr_lt f3).1
              rw [if_pos (show (some r).isSome = true from rfl)]
              simp (disch := omega) only [zs_Ref_wrongProperty_J171, zs_Ref_wrongProperty_J188, zp_R_first H K hm, f3, zp_eo, zp_R_how H K (a := 4), w4, ↓zd_bnd, ↓zy_bm, if_true, if_false, ite_true, ite_false, ↓reduceIte, Bool.false_eq_true, Bool.true_eq_false, eq_self, true_and, and_true, false_and, and_false, reduceCtorEq, decide_true, decide_false, not_true_eq_false, not_false_eq_true, ze_ltT, ze_ltF, ze_leT, ze_leF, ze_eqT, ze_eqF, ze_mlt, ze_ltm, ze_mle, ze_lem, ze_meq, ze_eqm, ze_mm, ze_mltm, ze_inT, ze_inF, ze_inM, ze_cl, ze_fin, ze_decT, ze_decF, Nat.reduceSub, Nat.reduceMul, nI_add, Nat.add_sub_cancel, Nat.add_assoc, Nat.reduceAdd, ze_r8, ze_r24, ze_r40, ze_r400, ze_l8, ze_l16, ze_l24, ze_l40, ze_sub, ze_am1, ze_es, ze_en, ze_i64, ze_m64, ze_64i, ze_64m, ze_LltT, ze_LltF, ze_LleT, ze_LleF, ze_LeqT, ze_LeqF, ze_Lmlt, ze_Lltm, ze_Lmle, ze_Llem, ze_Lmeq, ze_Leqm, ze_Lmm, lN_add, ze_ch, ze_chd, ze_bt, ze_bf, ze_n0, ze_n1, ze_n2, ze_n3, ze_n4, ze_n5, ze_n6, ze_n7, ze_n8, ze_n9, ze_n10, ze_n11, ze_n12, ze_n13, ze_n14, ze_n15, ze_n16, ze_n17, ze_n18, ze_n19, ze_n20, ze_n21, ze_n22, ze_n23, ze_n24, ze_n25, ze_n26, ze_n27, ze_n28, ze_n29, ze_n30, ze_n31, ze_n32, ze_n33, ze_n34, ze_n35, ze_n36, ze_n37, ze_n38, ze_n39, ze_n40, ze_n48, ze_n63, ze_n64, ze_n65, ze_n80, ze_n100, ze_n128, ze_n200, ze_n255, ze_n300, ze_n320, ze_n384, ze_n400, ze_n512, ze_n1023, ze_n1600, ze_n6400, ze_n9600, ze_n32768, ze_n65535, ze_n65536, ze_n802, ze_n8191, ze_L0, ze_L1, ze_L2, ze_L3, ze_L4, ze_L5, ze_L6, ze_L7, ze_L8, ze_L9, ze_L10, ze_L15, ze_L16, ze_L24, ze_L40, ze_L48, ze_L63, ze_L64, ze_L127, ze_L255, ze_L400, ze_L1024, ze_L2047, ze_L65535]
          · rw [if_pos z]
            simp (disch := omega) only [zs_Ref_wrongProperty_J171, zs_Ref_wrongProperty_J188, ↓zd_bnd, ↓zy_bm, if_true, if_false, ite_true, ite_false, ↓reduceIte, Bool.false_eq_true, Bool.true_eq_false, eq_self, true_and, and_true, false_and, and_false, reduceCtorEq, decide_true, decide_false, not_true_eq_false, not_false_eq_true, ze_ltT, ze_ltF, ze_leT, ze_leF, ze_eqT, ze_eqF, ze_mlt, ze_ltm, ze_mle, ze_lem, ze_meq, ze_eqm, ze_mm, ze_mltm, ze_inT, ze_inF, ze_inM, ze_cl, ze_fin, ze_decT, ze_decF, Nat.reduceSub, Nat.reduceMul, nI_add, Nat.add_sub_cancel, Nat.add_assoc, Nat.reduceAdd, ze_r8, ze_r24, ze_r40, ze_r400, ze_l8, ze_l16, ze_l24, ze_l40, ze_sub, ze_am1, ze_es, ze_en, ze_i64, ze_m64, ze_64i, ze_64m, ze_LltT, ze_LltF, ze_LleT, ze_LleF, ze_LeqT, ze_LeqF, ze_Lmlt, ze_Lltm, ze_Lmle, ze_Llem, ze_Lmeq, ze_Leqm, ze_Lmm, lN_add, ze_ch, ze_chd, ze_bt, ze_bf, ze_n0, ze_n1, ze_n2, ze_n3, ze_n4, ze_n5, ze_n6, ze_n7, ze_n8, ze_n9, ze_n10, ze_n11, ze_n12, ze_n13, ze_n14, ze_n15, ze_n16, ze_n17, ze_n18, ze_n19, ze_n20, ze_n21, ze_n22, ze_n23, ze_n24, ze_n25, ze_n26, ze_n27, ze_n28, ze_n29, ze_n30, ze_n31, ze_n32, ze_n33, ze_n34, ze_n35, ze_n36, ze_n37, ze_n38, ze_n39, ze_n40, ze_n48, ze_n63, ze_n64, ze_n65, ze_n80, ze_n100, ze_n128, ze_n200, ze_n255, ze_n300, ze_n320, ze_n384, ze_n400, ze_n512, ze_n1023, ze_n1600, ze_n6400, ze_n9600, ze_n32768, ze_n65535, ze_n65536, ze_n802, ze_n8191, ze_L0, ze_L1, ze_L2, ze_L3, ze_L4, ze_L5, ze_L6, ze_L7, ze_L8, ze_L9, ze_L10, ze_L15, ze_L16, ze_L24, ze_L40, ze_L48, ze_L63, ze_L64, ze_L127, ze_L255, ze_L400, ze_L1024, ze_L2047, ze_L65535]
        unfold zp_wb
        cases f4 : zp_fr A m 4 (nI (zd_nm A (zd_mt A m) p)) with
        | none =>
          have ww := zp_wrongWay K h e (zd_pt A (zd_mt A m) p)
          refine Eq.trans ?_ (j171 _ (zp_ww7 (zp_hw A e (zd_pt A (zd_mt A m) p))))
          simp (disch := omega) only [zs_Ref_wrongProperty, zs_Ref_wrongProperty_J120, zd_R_mt H, zd_R_nm H, zd_R_pt H, zp_R_first H K hm, zp_R_endOf H K hm, hs, f1, f2, f4, zp_eo, ze_ltm1, ze_0lem1, po, hne, ee, zp_R_how H K he, ww, ↓zd_bnd, ↓zy_bm, if_true, if_false, ite_true, ite_false, ↓reduceIte, Bool.false_eq_true, Bool.true_eq_false, eq_self, true_and, and_true, false_and, and_false, reduceCtorEq, decide_true, decide_false, not_true_eq_false, not_false_eq_true, ze_ltT, ze_ltF, ze_leT, ze_leF, ze_eqT, ze_eqF, ze_mlt, ze_ltm, ze_mle, ze_lem, ze_meq, ze_eqm, ze_mm, ze_mltm, ze_inT, ze_inF, ze_inM, ze_cl, ze_fin, ze_decT, ze_decF, Nat.reduceSub, Nat.reduceMul, nI_add, Nat.add_sub_cancel, Nat.add_assoc, Nat.reduceAdd, ze_r8, ze_r24, ze_r40, ze_r400, ze_l8, ze_l16, ze_l24, ze_l40, ze_sub, ze_am1, ze_es, ze_en, ze_i64, ze_m64, ze_64i, ze_64m, ze_LltT, ze_LltF, ze_LleT, ze_LleF, ze_LeqT, ze_LeqF, ze_Lmlt, ze_Lltm, ze_Lmle, ze_Llem, ze_Lmeq, ze_Leqm, ze_Lmm, lN_add, ze_ch, ze_chd, ze_bt, ze_bf, ze_n0, ze_n1, ze_n2, ze_n3, ze_n4, ze_n5, ze_n6, ze_n7, ze_n8, ze_n9, ze_n10, ze_n11, ze_n12, ze_n13, ze_n14, ze_n15, ze_n16, ze_n17, ze_n18, ze_n19, ze_n20, ze_n21, ze_n22, ze_n23, ze_n24, ze_n25, ze_n26, ze_n27, ze_n28, ze_n29, ze_n30, ze_n31, ze_n32, ze_n33, ze_n34, ze_n35, ze_n36, ze_n37, ze_n38, ze_n39, ze_n40, ze_n48, ze_n63, ze_n64, ze_n65, ze_n80, ze_n100, ze_n128, ze_n200, ze_n255, ze_n300, ze_n320, ze_n384, ze_n400, ze_n512, ze_n1023, ze_n1600, ze_n6400, ze_n9600, ze_n32768, ze_n65535, ze_n65536, ze_n802, ze_n8191, ze_L0, ze_L1, ze_L2, ze_L3, ze_L4, ze_L5, ze_L6, ze_L7, ze_L8, ze_L9, ze_L10, ze_L15, ze_L16, ze_L24, ze_L40, ze_L48, ze_L63, ze_L64, ze_L127, ze_L255, ze_L400, ze_L1024, ze_L2047, ze_L65535]
        | some r =>
          have hr := (zp_fr_lt f4).1
          obtain ⟨f, ef⟩ := zp_rok_4 R f4
          obtain ⟨hf, hw⟩ := zp_fn_some ef
          have hff := zd_ok_ff K f hf
          have hft := zd_ok_ft K f hf
          show _ = some (nI (if (match zp_fn A (zd_wh A m r) with | none => 6 | some f => if zd_ff A f = e ∧ zd_ft A f = zd_pt A (zd_mt A m) p then 0 else 6) ≠ 0 then (match zp_fn A (zd_wh A m r) with | none => 6 | some f => if zd_ff A f = e ∧ zd_ft A f = zd_pt A (zd_mt A m) p then 0 else 6) else _))
          rw [ef]
          show _ = some (nI (if (if zd_ff A f = e ∧ zd_ft A f = zd_pt A (zd_mt A m) p then 0 else 6) ≠ 0 then (if zd_ff A f = e ∧ zd_ft A f = zd_pt A (zd_mt A m) p then 0 else 6) else _))
          by_cases c : zd_ff A f = e ∧ zd_ft A f = zd_pt A (zd_mt A m) p
          · simp only [if_pos c]
            refine Eq.trans ?_ (j171 0 (by decide))
            simp (disch := omega) only [zs_Ref_wrongProperty, zs_Ref_wrongProperty_J120, zd_R_mt H, zd_R_nm H, zd_R_pt H, zd_R_wh H, zd_R_ff H, zd_R_ft H, zp_R_first H K hm, zp_R_endOf H K hm, hs, f1, f2, f4, zp_eo, ze_ltm1, po, hne, ee, hw, c.1, c.2, ↓zd_bnd, ↓zy_bm, if_true, if_false, ite_true, ite_false, ↓reduceIte, Bool.false_eq_true, Bool.true_eq_false, eq_self, true_and, and_true, false_and, and_false, reduceCtorEq, decide_true, decide_false, not_true_eq_false, not_false_eq_true, ze_ltT, ze_ltF, ze_leT, ze_leF, ze_eqT, ze_eqF, ze_mlt, ze_ltm, ze_mle, ze_lem, ze_meq, ze_eqm, ze_mm, ze_mltm, ze_inT, ze_inF, ze_inM, ze_cl, ze_fin, ze_decT, ze_decF, Nat.reduceSub, Nat.reduceMul, nI_add, Nat.add_sub_cancel, Nat.add_assoc, Nat.reduceAdd, ze_r8, ze_r24, ze_r40, ze_r400, ze_l8, ze_l16, ze_l24, ze_l40, ze_sub, ze_am1, ze_es, ze_en, ze_i64, ze_m64, ze_64i, ze_64m, ze_LltT, ze_LltF, ze_LleT, ze_LleF, ze_LeqT, ze_LeqF, ze_Lmlt, ze_Lltm, ze_Lmle, ze_Llem, ze_Lmeq, ze_Leqm, ze_Lmm, lN_add, ze_ch, ze_chd, ze_bt, ze_bf, ze_n0, ze_n1, ze_n2, ze_n3, ze_n4, ze_n5, ze_n6, ze_n7, ze_n8, ze_n9, ze_n10, ze_n11, ze_n12, ze_n13, ze_n14, ze_n15, ze_n16, ze_n17, ze_n18, ze_n19, ze_n20, ze_n21, ze_n22, ze_n23, ze_n24, ze_n25, ze_n26, ze_n27, ze_n28, ze_n29, ze_n30, ze_n31, ze_n32, ze_n33, ze_n34, ze_n35, ze_n36, ze_n37, ze_n38, ze_n39, ze_n40, ze_n48, ze_n63, ze_n64, ze_n65, ze_n80, ze_n100, ze_n128, ze_n200, ze_n255, ze_n300, ze_n320, ze_n384, ze_n400, ze_n512, ze_n1023, ze_n1600, ze_n6400, ze_n9600, ze_n32768, ze_n65535, ze_n65536, ze_n802, ze_n8191, ze_L0, ze_L1, ze_L2, ze_L3, ze_L4, ze_L5, ze_L6, ze_L7, ze_L8, ze_L9, ze_L10, ze_L15, ze_L16, ze_L24, ze_L40, ze_L48, ze_L63, ze_L64, ze_L127, ze_L255, ze_L400, ze_L1024, ze_L2047, ze_L65535]
          · simp only [if_neg c]
            refine Eq.trans ?_ (j171 6 (by decide))
            by_cases c1 : zd_ff A f = e
            · simp (disch := omega) only [zs_Ref_wrongProperty, zs_Ref_wrongProperty_J120, zs_Ref_wrongProperty_J169, zd_R_mt H, zd_R_nm H, zd_R_pt H, zd_R_wh H, zd_R_ff H, zd_R_ft H, zp_R_first H K hm, zp_R_endOf H K hm, hs, f1, f2, f4, zp_eo, ze_ltm1, po, hne, ee, hw, c1, ↓zd_bnd, ↓zy_bm, if_true, if_false, ite_true, ite_false, ↓reduceIte, Bool.false_eq_true, Bool.true_eq_false, eq_self, true_and, and_true, false_and, and_false, reduceCtorEq, decide_true, decide_false, not_true_eq_false, not_false_eq_true, ze_ltT, ze_ltF, ze_leT, ze_leF, ze_eqT, ze_eqF, ze_mlt, ze_ltm, ze_mle, ze_lem, ze_meq, ze_eqm, ze_mm, ze_mltm, ze_inT, ze_inF, ze_inM, ze_cl, ze_fin, ze_decT, ze_decF, Nat.reduceSub, Nat.reduceMul, nI_add, Nat.add_sub_cancel, Nat.add_assoc, Nat.reduceAdd, ze_r8, ze_r24, ze_r40, ze_r400, ze_l8, ze_l16, ze_l24, ze_l40, ze_sub, ze_am1, ze_es, ze_en, ze_i64, ze_m64, ze_64i, ze_64m, ze_LltT, ze_LltF, ze_LleT, ze_LleF, ze_LeqT, ze_LeqF, ze_Lmlt, ze_Lltm, ze_Lmle, ze_Llem, ze_Lmeq, ze_Leqm, ze_Lmm, lN_add, ze_ch, ze_chd, ze_bt, ze_bf, ze_n0, ze_n1, ze_n2, ze_n3, ze_n4, ze_n5, ze_n6, ze_n7, ze_n8, ze_n9, ze_n10, ze_n11, ze_n12, ze_n13, ze_n14, ze_n15, ze_n16, ze_n17, ze_n18, ze_n19, ze_n20, ze_n21, ze_n22, ze_n23, ze_n24, ze_n25, ze_n26, ze_n27, ze_n28, ze_n29, ze_n30, ze_n31, ze_n32, ze_n33, ze_n34, ze_n35, ze_n36, ze_n37, ze_n38, ze_n39, ze_n40, ze_n48, ze_n63, ze_n64, ze_n65, ze_n80, ze_n100, ze_n128, ze_n200, ze_n255, ze_n300, ze_n320, ze_n384, ze_n400, ze_n512, ze_n1023, ze_n1600, ze_n6400, ze_n9600, ze_n32768, ze_n65535, ze_n65536, ze_n802, ze_n8191, ze_L0, ze_L1, ze_L2, ze_L3, ze_L4, ze_L5, ze_L6, ze_L7, ze_L8, ze_L9, ze_L10, ze_L15, ze_L16, ze_L24, ze_L40, ze_L48, ze_L63, ze_L64, ze_L127, ze_L255, ze_L400, ze_L1024, ze_L2047, ze_L65535]
            · simp (disch := omega) only [zs_Ref_wrongProperty, zs_Ref_wrongProperty_J120, zs_Ref_wrongProperty_J169, zd_R_mt H, zd_R_nm H, zd_R_pt H, zd_R_wh H, zd_R_ff H, zd_R_ft H, zp_R_first H K hm, zp_R_endOf H K hm, hs, f1, f2, f4, zp_eo, ze_ltm1, po, hne, ee, hw, ↓zd_bnd, ↓zy_bm, if_true, if_false, ite_true, ite_false, ↓reduceIte, Bool.false_eq_true, Bool.true_eq_false, eq_self, true_and, and_true, false_and, and_false, reduceCtorEq, decide_true, decide_false, not_true_eq_false, not_false_eq_true, ze_ltT, ze_ltF, ze_leT, ze_leF, ze_eqT, ze_eqF, ze_mlt, ze_ltm, ze_mle, ze_lem, ze_meq, ze_eqm, ze_mm, ze_mltm, ze_inT, ze_inF, ze_inM, ze_cl, ze_fin, ze_decT, ze_decF, Nat.reduceSub, Nat.reduceMul, nI_add, Nat.add_sub_cancel, Nat.add_assoc, Nat.reduceAdd, ze_r8, ze_r24, ze_r40, ze_r400, ze_l8, ze_l16, ze_l24, ze_l40, ze_sub, ze_am1, ze_es, ze_en, ze_i64, ze_m64, ze_64i, ze_64m, ze_LltT, ze_LltF, ze_LleT, ze_LleF, ze_LeqT, ze_LeqF, ze_Lmlt, ze_Lltm, ze_Lmle, ze_Llem, ze_Lmeq, ze_Leqm, ze_Lmm, lN_add, ze_ch, ze_chd, ze_bt, ze_bf, ze_n0, ze_n1, ze_n2, ze_n3, ze_n4, ze_n5, ze_n6, ze_n7, ze_n8, ze_n9, ze_n10, ze_n11, ze_n12, ze_n13, ze_n14, ze_n15, ze_n16, ze_n17, ze_n18, ze_n19, ze_n20, ze_n21, ze_n22, ze_n23, ze_n24, ze_n25, ze_n26, ze_n27, ze_n28, ze_n29, ze_n30, ze_n31, ze_n32, ze_n33, ze_n34, ze_n35, ze_n36, ze_n37, ze_n38, ze_n39, ze_n40, ze_n48, ze_n63, ze_n64, ze_n65, ze_n80, ze_n100, ze_n128, ze_n200, ze_n255, ze_n300, ze_n320, ze_n384, ze_n400, ze_n512, ze_n1023, ze_n1600, ze_n6400, ze_n9600, ze_n32768, ze_n65535, ze_n65536, ze_n802, ze_n8191, ze_L0, ze_L1, ze_L2, ze_L3, ze_L4, ze_L5, ze_L6, ze_L7, ze_L8, ze_L9, ze_L10, ze_L15, ze_L16, ze_L24, ze_L40, ze_L48, ze_L63, ze_L64, ze_L127, ze_L255, ze_L400, ze_L1024, ze_L2047, ze_L65535]
