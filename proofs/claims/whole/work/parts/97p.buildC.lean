/-! build, in the class -/
def zp_da (A : zd_A) : Option Nat := zd_first (fun m => (zp_dm A m).isSome) (zd_M A)
def zp_dx (A : zd_A) : Int32 × Int32 × Int32 := match zp_da A with
  | none => (nI 0, -nI 1, -nI 1)
  | some m => match zp_dm A m with
    | none => (nI 0, -nI 1, -nI 1)
    | some (n, q) => (nI n, nI m, q)
theorem zp_dm_rng {A : zd_A} {m n : Nat} {q : Int32} (h : zp_dm A m = some (n, q)) : 0 < n ∧ n < 8 := by
  unfold zp_dm at h
  cases hb : zp_ivb A m with
  | false => rw [hb, if_pos rfl] at h; cases h; omega
  | true =>
    rw [hb, if_neg (by decide)] at h
    cases er : zd_first (zp_rf A m) (zd_rc A m) with
    | some r =>
      rw [er] at h
      have h : some (zp_wr A m r, nI r) = some (n, q) := h
      cases h
      have := zp_wr8 A m r
      have wne : zp_wr A m r ≠ 0 := of_decide_eq_true (zd_first_some.mp er).2.1
      omega
    | none =>
      rw [er] at h
      have h : (match zd_first (zp_qf A m) (zp_nm A m) with | some p => some (zp_wq A m p, nI p) | none => none) = some (n, q) := h
      cases eq : zd_first (zp_qf A m) (zp_nm A m) with
      | none => rw [eq] at h; cases h
      | some p =>
        rw [eq] at h
        have h : some (zp_wq A m p, nI p) = some (n, q) := h
        cases h
        have wne : zp_wq A m p ≠ 0 := of_decide_eq_true (zd_first_some.mp eq).2.1
        refine ⟨by omega, ?_⟩
        unfold zp_wq
        by_cases c : zd_srt A (zd_mt A m) = 4
        · rw [if_pos c]
          have := zp_w18 A m p
          have := zp_w28 A m p
          unfold zp_wp
          by_cases c1 : zp_w1 A m p = 0
          · rw [if_neg (fun z => z c1)]; omega
          · rw [if_pos c1]; omega
        · rw [if_neg c]
          by_cases c2 : zp_con A m (zd_nm A (zd_mf A m) p) = none
          · rw [if_pos c2]; omega
          · rw [if_neg c2]; omega
theorem zp_PM_keep {A : zd_A} (K : zd_ok A) {m q : Nat} (hq : q < zd_M A) (hn : q ≠ m) {h k : zx_H} (x : zp_fM A m h k) (y : zp_PM A h q) : zp_PM A k q := by
  have hM := zd_ok_M K
  have hT := zd_ok_T K
  have hme := zd_ok_m K q hq
  have hn8 : zp_nm A q ≤ 8 := by
    unfold zp_nm
    have := zd_ok_sz K (zd_mt A q) (by omega)
    have := zd_ok_sz K (zd_mf A q) (by omega)
    by_cases c : zd_srt A (zd_mt A q) = 4
    · rw [if_pos c]; omega
    · rw [if_neg c]; omega
  exact ⟨by rw [x.2.2.1 q 7 (fun e => hn e.1)]; exact y.1, fun p hp => zp_mem_keep K hq hp (fun j => x.2.2.2.2.1 _ j (by omega)) (x.2.2.2.1 q p hn) x.2.2.2.2.2.1 (y.2 p hp)⟩
theorem zp_PM_16 {A : zd_A} {q j : Nat} {h : zx_H} (v : Int32) (y : zp_PM A h q) : zp_PM A (zx_sI h 16 0 j v) q :=
  zp_PM_same (ze_sIF _ _ _ _ (by decide)) (ze_sIF _ _ _ _ (by decide)) (ze_sIF _ _ _ _ (by decide)) (ze_sIF _ _ _ _ (by decide)) (ze_sIF _ _ _ _ (by decide)) rfl y
theorem zd_kD_k {h k : zx_H} (a : zd_kC h k) : zd_kD h k := ⟨a.1, a.2.2.1, a.2.2.2.1, a.2.2.2.2.1, a.2.2.2.2.2.1, a.2.2.2.2.2.2.1, a.2.2.2.2.2.2.2⟩
theorem zd_kD_16 (h : zx_H) (j : Nat) (v : Int32) : zd_kD h (zx_sI h 16 0 j v) := ⟨fun F hF => ze_sIF _ _ _ _ (by omega), fun i c _ => ze_gIn _ _ _ _ _ _ _ _ (by omega), fun i c _ => ze_gIn _ _ _ _ _ _ _ _ (by omega), ze_sIF _ _ _ _ (by decide), ze_sIF _ _ _ _ (by decide), rfl, rfl⟩
theorem zp_fM_sR {A : zd_A} {m : Nat} {h k : zx_H} (x : zp_fM A m h k) : zd_sR h k := fun F hF => by
  unfold zd_fr at hF
  simp at hF
  exact ⟨x.1 F (by omega) (by omega) (by omega) (by omega) (by omega) (by omega), x.2.1 F (by omega)⟩
theorem zp_C_planAll {A : zd_A} {h : zx_H} (H : zd_C A h) (K : zd_ok A) : ∃ k, zs_Planner_planAll h = some k ∧ zd_kD h k ∧ zd_sR h k ∧ k.1 16 0 4 = (zp_dx A).1 ∧ k.1 16 0 5 = (zp_dx A).2.1 ∧ k.1 16 0 6 = (zp_dx A).2.2 ∧ (zp_da A = none → ∀ m, m < zd_M A → zp_PM A k m) := by
  have hM := zd_ok_M K
  obtain ⟨k0, n1, n2, n3⟩ := zp_C_nameFunctions H K
  have key : ∀ d m F (s : zx_H), m + d = zd_M A → d + 1 < F → (∀ q, q < m → (zp_dm A q).isSome = false) → zd_kD h s → zd_sR h s → zp_N A s → s.1 16 0 4 = nI 0 → s.1 16 0 6 = -nI 1 → (∀ q, q < m → zp_PM A s q) → ∃ k, zx_loop (fun _ _ => none) zs_Planner_planAll_L24_body F (nI m) s = some k ∧ zd_kD h k ∧ zd_sR h k ∧ k.1 16 0 4 = (zp_dx A).1 ∧ k.1 16 0 5 = (zp_dx A).2.1 ∧ k.1 16 0 6 = (zp_dx A).2.2 ∧ (zp_da A = none → ∀ m, m < zd_M A → zp_PM A k m) := by
    intro d
    induction d with
    | zero =>
      intro m F s hm hF hq D sR N s4 s6 y
      obtain ⟨F, rfl⟩ : ∃ G, F = G + 1 := ⟨F - 1, by omega⟩
      have hm : m = zd_M A := hm
      have Hs := zq_C H D
      have cM := zd_C_M Hs
      have cM : s.1 11 0 3 = nI (zd_M A) := cM
      have da : zp_da A = none := zd_first_none.mpr (fun q hq2 => hq q (by omega))
      have dx : zp_dx A = (nI 0, -nI 1, -nI 1) := by unfold zp_dx; rw [da]
      refine ⟨zx_sI s 16 0 5 (-nI 1), ?_, zd_kD_trans D (zd_kD_16 s 5 _), zd_sR_I sR (by unfold zd_fr; decide) _ _ _, ?_, ?_, ?_, fun _ q hq2 => zp_PM_16 _ (y q (by omega))⟩
      · show zs_Planner_planAll_L24_body _ (nI m) s = _
        simp (disch := omega) only [zs_Planner_planAll_L24_body, zs_Planner_planAll_J66, cM, s4, hm, ↓zd_bnd, ↓zy_bm, if_true, if_false, ite_true, ite_false, ↓reduceIte, Bool.false_eq_true, Bool.true_eq_false, eq_self, true_and, and_true, false_and, and_false, reduceCtorEq, decide_true, decide_false, not_true_eq_false, not_false_eq_true, ze_ltT, ze_ltF, ze_leT, ze_leF, ze_eqT, ze_eqF, ze_mlt, ze_ltm, ze_mle, ze_lem, ze_meq, ze_eqm, ze_mm, ze_mltm, ze_inT, ze_inF, ze_inM, ze_cl, ze_fin, ze_decT, ze_decF, Nat.reduceSub, Nat.reduceMul, nI_add, Nat.add_sub_cancel, Nat.add_assoc, Nat.reduceAdd, ze_r8, ze_r24, ze_r40, ze_r400, ze_l8, ze_l16, ze_l24, ze_l40, ze_sub, ze_am1, ze_es, ze_en, ze_i64, ze_m64, ze_64i, ze_64m, ze_LltT, ze_LltF, ze_LleT, ze_LleF, ze_LeqT, ze_LeqF, ze_Lmlt, ze_Lltm, ze_Lmle, ze_Llem, ze_Lmeq, ze_Leqm, ze_Lmm, lN_add, ze_ch, ze_chd, ze_bt, ze_bf, ze_n0, ze_n1, ze_n2, ze_n3, ze_n4, ze_n5, ze_n6, ze_n7, ze_n8, ze_n9, ze_n10, ze_n11, ze_n12, ze_n13, ze_n14, ze_n15, ze_n16, ze_n17, ze_n18, ze_n19, ze_n20, ze_n21, ze_n22, ze_n23, ze_n24, ze_n25, ze_n26, ze_n27, ze_n28, ze_n29, ze_n30, ze_n31, ze_n32, ze_n33, ze_n34, ze_n35, ze_n36, ze_n37, ze_n38, ze_n39, ze_n40, ze_n48, ze_n63, ze_n64, ze_n65, ze_n80, ze_n100, ze_n128, ze_n200, ze_n255, ze_n300, ze_n320, ze_n384, ze_n400, ze_n512, ze_n1023, ze_n1600, ze_n6400, ze_n9600, ze_n32768, ze_n65535, ze_n65536, ze_n802, ze_n8191, ze_L0, ze_L1, ze_L2, ze_L3, ze_L4, ze_L5, ze_L6, ze_L7, ze_L8, ze_L9, ze_L10, ze_L15, ze_L16, ze_L24, ze_L40, ze_L48, ze_L63, ze_L64, ze_L127, ze_L255, ze_L400, ze_L1024, ze_L2047, ze_L65535]
      · rw [dx]; simp (disch := omega) only [ze_gIs, ze_gIn, ze_gJs, ze_gJn, zd_gI2, zd_gJ1, ze_sII]; exact s4
      · rw [dx]; simp (disch := omega) only [ze_gIs, ze_gIn, ze_gJs, ze_gJn, zd_gI2, zd_gJ1, ze_sII]
      · rw [dx]; simp (disch := omega) only [ze_gIs, ze_gIn, ze_gJs, ze_gJn, zd_gI2, zd_gJ1, ze_sII]; exact s6
    | succ d ih =>
      intro m F s hm hF hq D sR N s4 s6 y
      obtain ⟨F, rfl⟩ : ∃ G, F = G + 2 := ⟨F - 2, by omega⟩
      have hm16 : m < 16 := by omega
      have Hs := zq_C H D
      have cM := zd_C_M Hs
      have cM : s.1 11 0 3 = nI (zd_M A) := cM
      have D1 := zd_kD_trans D (zd_kD_16 s 5 (nI m))
      have N1 : zp_N A (zx_sI s 16 0 5 (nI m)) := fun f hf => by rw [ze_gIn _ _ _ _ _ _ _ _ (by omega)]; exact N f hf
      obtain ⟨k, p1, p2, p3⟩ := zp_C_planMethod H K (m := m) (by omega) hm16 D1 N1 (by simp (disch := omega) only [ze_gIs, ze_gIn, ze_gJs, ze_gJn, zd_gI2, zd_gJ1, ze_sII]; exact s4) (by simp (disch := omega) only [ze_gIs, ze_gIn, ze_gJs, ze_gJn, zd_gI2, zd_gJ1, ze_sII]; exact s6)
      have D2 := zd_kD_trans D1 (zp_fM_kD p2)
      have sR2 := zd_sR_trans (zd_sR_I sR (F := 16) (by unfold zd_fr; decide) 0 5 (nI m)) (zp_fM_sR p2)
      have Hk := zq_C H D2
      have cM2 := zd_C_M Hk
      have cM2 : k.1 11 0 3 = nI (zd_M A) := cM2
      cases ed : zp_dm A m with
      | none =>
        rw [ed] at p3
        have p3 : k.1 16 0 4 = nI 0 ∧ k.1 16 0 6 = -nI 1 ∧ zp_PM A k m := p3
        obtain ⟨k2, e1, e2⟩ := ih (m + 1) (F + 1) k (by omega) (by omega) (fun q hq2 => by
          by_cases z : q = m
          · rw [z, ed]; rfl
          · exact hq q (by omega)) D2 sR2 (zp_fM_N p2 N1) p3.1 p3.2.1 (fun q hq2 => by
          by_cases z : q = m
          · rw [z]; exact p3.2.2
          · exact zp_PM_keep K (by omega) z p2 (zp_PM_16 _ (y q (by omega))))
        refine ⟨k2, ?_, e2⟩
        rw [← e1]
        show zs_Planner_planAll_L24_body (zx_loop (fun _ _ => none) zs_Planner_planAll_L24_body (F + 1)) (nI m) s = _
        simp (disch := omega) only [zs_Planner_planAll_L24_body, cM, s4, p1, ↓zd_bnd, ↓zy_bm, if_true, if_false, ite_true, ite_false, ↓reduceIte, Bool.false_eq_true, Bool.true_eq_false, eq_self, true_and, and_true, false_and, and_false, reduceCtorEq, decide_true, decide_false, not_true_eq_false, not_false_eq_true, ze_ltT, ze_ltF, ze_leT, ze_leF, ze_eqT, ze_eqF, ze_mlt, ze_ltm, ze_mle, ze_lem, ze_meq, ze_eqm, ze_mm, ze_mltm, ze_inT, ze_inF, ze_inM, ze_cl, ze_fin, ze_decT, ze_decF, Nat.reduceSub, Nat.reduceMul, nI_add, Nat.add_sub_cancel, Nat.add_assoc, Nat.reduceAdd, ze_r8, ze_r24, ze_r40, ze_r400, ze_l8, ze_l16, ze_l24, ze_l40, ze_sub, ze_am1, ze_es, ze_en, ze_i64, ze_m64, ze_64i, ze_64m, ze_LltT, ze_LltF, ze_LleT, ze_LleF, ze_LeqT, ze_LeqF, ze_Lmlt, ze_Lltm, ze_Lmle, ze_Llem, ze_Lmeq, ze_Leqm, ze_Lmm, lN_add, ze_ch, ze_chd, ze_bt, ze_bf, ze_n0, ze_n1, ze_n2, ze_n3, ze_n4, ze_n5, ze_n6, ze_n7, ze_n8, ze_n9, ze_n10, ze_n11, ze_n12, ze_n13, ze_n14, ze_n15, ze_n16, ze_n17, ze_n18, ze_n19, ze_n20, ze_n21, ze_n22, ze_n23, ze_n24, ze_n25, ze_n26, ze_n27, ze_n28, ze_n29, ze_n30, ze_n31, ze_n32, ze_n33, ze_n34, ze_n35, ze_n36, ze_n37, ze_n38, ze_n39, ze_n40, ze_n48, ze_n63, ze_n64, ze_n65, ze_n80, ze_n100, ze_n128, ze_n200, ze_n255, ze_n300, ze_n320, ze_n384, ze_n400, ze_n512, ze_n1023, ze_n1600, ze_n6400, ze_n9600, ze_n32768, ze_n65535, ze_n65536, ze_n802, ze_n8191, ze_L0, ze_L1, ze_L2, ze_L3, ze_L4, ze_L5, ze_L6, ze_L7, ze_L8, ze_L9, ze_L10, ze_L15, ze_L16, ze_L24, ze_L40, ze_L48, ze_L63, ze_L64, ze_L127, ze_L255, ze_L400, ze_L1024, ze_L2047, ze_L65535]
      | some nq =>
        obtain ⟨n, q⟩ := nq
        rw [ed] at p3
        have p3 : k.1 16 0 4 = nI n ∧ k.1 16 0 6 = q := p3
        have hn := zp_dm_rng ed
        have da : zp_da A = some m := zd_first_some.mpr ⟨by omega, by rw [ed]; rfl, hq⟩
        have dx : zp_dx A = (nI n, nI m, q) := by unfold zp_dx; rw [da]; show (match zp_dm A m with | none => _ | some (n, q) => _) = _; rw [ed]
        have st : zs_Planner_planAll_L24_body (zx_loop (fun _ _ => none) zs_Planner_planAll_L24_body F) (nI (m + 1)) k = some k := by
          by_cases z : zd_M A ≤ m + 1
          · simp (disch := omega) only [zs_Planner_planAll_L24_body, zs_Planner_planAll_J66, cM2, p3.1, ↓zd_bnd, ↓zy_bm, if_true, if_false, ite_true, ite_false, ↓reduceIte, Bool.false_eq_true, Bool.true_eq_false, eq_self, true_and, and_true, false_and, and_false, reduceCtorEq, decide_true, decide_false, not_true_eq_false, not_false_eq_true, ze_ltT, ze_ltF, ze_leT, ze_leF, ze_eqT, ze_eqF, ze_mlt, ze_ltm, ze_mle, ze_lem, ze_meq, ze_eqm, ze_mm, ze_mltm, ze_inT, ze_inF, ze_inM, ze_cl, ze_fin, ze_decT, ze_decF, Nat.reduceSub, Nat.reduceMul, nI_add, Nat.add_sub_cancel, Nat.add_assoc, Nat.reduceAdd, ze_r8, ze_r24, ze_r40, ze_r400, ze_l8, ze_l16, ze_l24, ze_l40, ze_sub, ze_am1, ze_es, ze_en, ze_i64, ze_m64, ze_64i, ze_64m, ze_LltT, ze_LltF, ze_LleT, ze_LleF, ze_LeqT, ze_LeqF, ze_Lmlt, ze_Lltm, ze_Lmle, ze_Llem, ze_Lmeq, ze_Leqm, ze_Lmm, lN_add, ze_ch, ze_chd, ze_bt, ze_bf, ze_n0, ze_n1, ze_n2, ze_n3, ze_n4, ze_n5, ze_n6, ze_n7, ze_n8, ze_n9, ze_n10, ze_n11, ze_n12, ze_n13, ze_n14, ze_n15, ze_n16, ze_n17, ze_n18, ze_n19, ze_n20, ze_n21, ze_n22, ze_n23, ze_n24, ze_n25, ze_n26, ze_n27, ze_n28, ze_n29, ze_n30, ze_n31, ze_n32, ze_n33, ze_n34, ze_n35, ze_n36, ze_n37, ze_n38, ze_n39, ze_n40, ze_n48, ze_n63, ze_n64, ze_n65, ze_n80, ze_n100, ze_n128, ze_n200, ze_n255, ze_n300, ze_n320, ze_n384, ze_n400, ze_n512, ze_n1023, ze_n1600, ze_n6400, ze_n9600, ze_n32768, ze_n65535, ze_n65536, ze_n802, ze_n8191, ze_L0, ze_L1, ze_L2, ze_L3, ze_L4, ze_L5, ze_L6, ze_L7, ze_L8, ze_L9, ze_L10, ze_L15, ze_L16, ze_L24, ze_L40, ze_L48, ze_L63, ze_L64, ze_L127, ze_L255, ze_L400, ze_L1024, ze_L2047, ze_L65535]
          · simp (disch := omega) only [zs_Planner_planAll_L24_body, zs_Planner_planAll_J66, cM2, p3.1, ↓zd_bnd, ↓zy_bm, if_true, if_false, ite_true, ite_false, ↓reduceIte, Bool.false_eq_true, Bool.true_eq_false, eq_self, true_and, and_true, false_and, and_false, reduceCtorEq, decide_true, decide_false, not_true_eq_false, not_false_eq_true, ze_ltT, ze_ltF, ze_leT, ze_leF, ze_eqT, ze_eqF, ze_mlt, ze_ltm, ze_mle, ze_lem, ze_meq, ze_eqm, ze_mm, ze_mltm, ze_inT, ze_inF, ze_inM, ze_cl, ze_fin, ze_decT, ze_decF, Nat.reduceSub, Nat.reduceMul, nI_add, Nat.add_sub_cancel, Nat.add_assoc, Nat.reduceAdd, ze_r8, ze_r24, ze_r40, ze_r400, ze_l8, ze_l16, ze_l24, ze_l40, ze_sub, ze_am1, ze_es, ze_en, ze_i64, ze_m64, ze_64i, ze_64m, ze_LltT, ze_LltF, ze_LleT, ze_LleF, ze_LeqT, ze_LeqF, ze_Lmlt, ze_Lltm, ze_Lmle, ze_Llem, ze_Lmeq, ze_Leqm, ze_Lmm, lN_add, ze_ch, ze_chd, ze_bt, ze_bf, ze_n0, ze_n1, ze_n2, ze_n3, ze_n4, ze_n5, ze_n6, ze_n7, ze_n8, ze_n9, ze_n10, ze_n11, ze_n12, ze_n13, ze_n14, ze_n15, ze_n16, ze_n17, ze_n18, ze_n19, ze_n20, ze_n21, ze_n22, ze_n23, ze_n24, ze_n25, ze_n26, ze_n27, ze_n28, ze_n29, ze_n30, ze_n31, ze_n32, ze_n33, ze_n34, ze_n35, ze_n36, ze_n37, ze_n38, ze_n39, ze_n40, ze_n48, ze_n63, ze_n64, ze_n65, ze_n80, ze_n100, ze_n128, ze_n200, ze_n255, ze_n300, ze_n320, ze_n384, ze_n400, ze_n512, ze_n1023, ze_n1600, ze_n6400, ze_n9600, ze_n32768, ze_n65535, ze_n65536, ze_n802, ze_n8191, ze_L0, ze_L1, ze_L2, ze_L3, ze_L4, ze_L5, ze_L6, ze_L7, ze_L8, ze_L9, ze_L10, ze_L15, ze_L16, ze_L24, ze_L40, ze_L48, ze_L63, ze_L64, ze_L127, ze_L255, ze_L400, ze_L1024, ze_L2047, ze_L65535]
        refine ⟨k, ?_, D2, sR2, by rw [dx]; exact p3.1, ?_, by rw [dx]; exact p3.2, fun z => by rw [da] at z; cases z⟩
        · rw [← st]
          show zs_Planner_planAll_L24_body (zs_Planner_planAll_L24_body (zx_loop (fun _ _ => none) zs_Planner_planAll_L24_body F)) (nI m) s = _
          generalize zs_Planner_planAll_L24_body (zx_loop (fun _ _ => none) zs_Planner_planAll_L24_body F) = k9
          simp (disch := omega) only [zs_Planner_planAll_L24_body, cM, s4, p1, ↓zd_bnd, ↓zy_bm, if_true, if_false, ite_true, ite_false, ↓reduceIte, Bool.false_eq_true, Bool.true_eq_false, eq_self, true_and, and_true, false_and, and_false, reduceCtorEq, decide_true, decide_false, not_true_eq_false, not_false_eq_true, ze_ltT, ze_ltF, ze_leT, ze_leF, ze_eqT, ze_eqF, ze_mlt, ze_ltm, ze_mle, ze_lem, ze_meq, ze_eqm, ze_mm, ze_mltm, ze_inT, ze_inF, ze_inM, ze_cl, ze_fin, ze_decT, ze_decF, Nat.reduceSub, Nat.reduceMul, nI_add, Nat.add_sub_cancel, Nat.add_assoc, Nat.reduceAdd, ze_r8, ze_r24, ze_r40, ze_r400, ze_l8, ze_l16, ze_l24, ze_l40, ze_sub, ze_am1, ze_es, ze_en, ze_i64, ze_m64, ze_64i, ze_64m, ze_LltT, ze_LltF, ze_LleT, ze_LleF, ze_LeqT, ze_LeqF, ze_Lmlt, ze_Lltm, ze_Lmle, ze_Llem, ze_Lmeq, ze_Leqm, ze_Lmm, lN_add, ze_ch, ze_chd, ze_bt, ze_bf, ze_n0, ze_n1, ze_n2, ze_n3, ze_n4, ze_n5, ze_n6, ze_n7, ze_n8, ze_n9, ze_n10, ze_n11, ze_n12, ze_n13, ze_n14, ze_n15, ze_n16, ze_n17, ze_n18, ze_n19, ze_n20, ze_n21, ze_n22, ze_n23, ze_n24, ze_n25, ze_n26, ze_n27, ze_n28, ze_n29, ze_n30, ze_n31, ze_n32, ze_n33, ze_n34, ze_n35, ze_n36, ze_n37, ze_n38, ze_n39, ze_n40, ze_n48, ze_n63, ze_n64, ze_n65, ze_n80, ze_n100, ze_n128, ze_n200, ze_n255, ze_n300, ze_n320, ze_n384, ze_n400, ze_n512, ze_n1023, ze_n1600, ze_n6400, ze_n9600, ze_n32768, ze_n65535, ze_n65536, ze_n802, ze_n8191, ze_L0, ze_L1, ze_L2, ze_L3, ze_L4, ze_L5, ze_L6, ze_L7, ze_L8, ze_L9, ze_L10, ze_L15, ze_L16, ze_L24, ze_L40, ze_L48, ze_L63, ze_L64, ze_L127, ze_L255, ze_L400, ze_L1024, ze_L2047, ze_L65535]
        · rw [dx]
          refine Eq.trans p2.2.2.2.2.2.2 ?_
          exact ze_gIs _ _ _ _ _
  have D0 : zd_kD h (zx_sI (zx_sI (zx_sI k0 16 0 4 (nI 0)) 16 0 5 (-nI 1)) 16 0 6 (-nI 1)) := zd_kD_trans (zd_kD_trans (zd_kD_trans (zd_kD_k (zp_fN_k n2)) (zd_kD_16 _ _ _)) (zd_kD_16 _ _ _)) (zd_kD_16 _ _ _)
  have sR0 : zd_sR h k0 := fun F hF => by
    unfold zd_fr at hF
    simp at hF
    exact ⟨n2.1 F (by omega), by rw [n2.2.1]⟩
  obtain ⟨k, e1, e2⟩ := key (zd_M A) 0 zx_fuel _ (by omega) (by unfold zx_fuel; omega) (fun q hq => absurd hq (Nat.not_lt_zero q)) D0 (zd_sR_I (zd_sR_I (zd_sR_I sR0 (F := 16) (by unfold zd_fr; decide) 0 4 (nI 0)) (F := 16) (by unfold zd_fr; decide) 0 5 (-nI 1)) (F := 16) (by unfold zd_fr; decide) 0 6 (-nI 1)) (fun f hf => by simp (disch := omega) only [ze_gIs, ze_gIn, ze_gJs, ze_gJn, zd_gI2, zd_gJ1, ze_sII]; exact n3 f hf) (by simp (disch := omega) only [ze_gIs, ze_gIn, ze_gJs, ze_gJn, zd_gI2, zd_gJ1, ze_sII]) (by simp (disch := omega) only [ze_gIs, ze_gIn, ze_gJs, ze_gJn, zd_gI2, zd_gJ1, ze_sII]) (fun q hq => absurd hq (Nat.not_lt_zero q))
  refine ⟨k, ?_, e2⟩
  have e1 : zs_Planner_planAll_L24 (nI 0) (zx_sI (zx_sI (zx_sI k0 16 0 4 (nI 0)) 16 0 5 (-nI 1)) 16 0 6 (-nI 1)) = some k := e1
  simp (disch := omega) only [zs_Planner_planAll, n1, e1, ↓zd_bnd, ↓zy_bm, if_true, if_false, ite_true, ite_false, ↓reduceIte, Bool.false_eq_true, Bool.true_eq_false, eq_self, true_and, and_true, false_and, and_false, reduceCtorEq, decide_true, decide_false, not_true_eq_false, not_false_eq_true, ze_ltT, ze_ltF, ze_leT, ze_leF, ze_eqT, ze_eqF, ze_mlt, ze_ltm, ze_mle, ze_lem, ze_meq, ze_eqm, ze_mm, ze_mltm, ze_inT, ze_inF, ze_inM, ze_cl, ze_fin, ze_decT, ze_decF, Nat.reduceSub, Nat.reduceMul, nI_add, Nat.add_sub_cancel, Nat.add_assoc, Nat.reduceAdd, ze_r8, ze_r24, ze_r40, ze_r400, ze_l8, ze_l16, ze_l24, ze_l40, ze_sub, ze_am1, ze_es, ze_en, ze_i64, ze_m64, ze_64i, ze_64m, ze_LltT, ze_LltF, ze_LleT, ze_LleF, ze_LeqT, ze_LeqF, ze_Lmlt, ze_Lltm, ze_Lmle, ze_Llem, ze_Lmeq, ze_Leqm, ze_Lmm, lN_add, ze_ch, ze_chd, ze_bt, ze_bf, ze_n0, ze_n1, ze_n2, ze_n3, ze_n4, ze_n5, ze_n6, ze_n7, ze_n8, ze_n9, ze_n10, ze_n11, ze_n12, ze_n13, ze_n14, ze_n15, ze_n16, ze_n17, ze_n18, ze_n19, ze_n20, ze_n21, ze_n22, ze_n23, ze_n24, ze_n25, ze_n26, ze_n27, ze_n28, ze_n29, ze_n30, ze_n31, ze_n32, ze_n33, ze_n34, ze_n35, ze_n36, ze_n37, ze_n38, ze_n39, ze_n40, ze_n48, ze_n63, ze_n64, ze_n65, ze_n80, ze_n100, ze_n128, ze_n200, ze_n255, ze_n300, ze_n320, ze_n384, ze_n400, ze_n512, ze_n1023, ze_n1600, ze_n6400, ze_n9600, ze_n32768, ze_n65535, ze_n65536, ze_n802, ze_n8191, ze_L0, ze_L1, ze_L2, ze_L3, ze_L4, ze_L5, ze_L6, ze_L7, ze_L8, ze_L9, ze_L10, ze_L15, ze_L16, ze_L24, ze_L40, ze_L48, ze_L63, ze_L64, ze_L127, ze_L255, ze_L400, ze_L1024, ze_L2047, ze_L65535]
