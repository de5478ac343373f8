/-! a method is planned -/
def zp_fM (A : zd_A) (m : Nat) (h k : zx_H) : Prop := (∀ F, F ≠ 15 → F ≠ 16 → F ≠ 54 → F ≠ 59 → F ≠ 60 → F ≠ 61 → k.1 F = h.1 F) ∧ (∀ F, F ≠ 60 → k.2 F = h.2 F) ∧ (∀ i j, ¬ (i = m ∧ (j = 6 ∨ j = 7)) → k.1 54 i j = h.1 54 i j) ∧ (∀ i j, i ≠ m → k.1 59 i j = h.1 59 i j) ∧ (∀ a j, a < 8 * m ∨ 8 * m + 8 ≤ a ∧ a ≠ 128 → k.1 60 a j = h.1 60 a j ∧ k.2 60 a j = h.2 60 a j ∧ k.1 61 a j = h.1 61 a j) ∧ (∀ a b, a < zd_T A → b < zd_T A → k.1 15 0 (40 * a + b) = h.1 15 0 (40 * a + b) ∨ k.1 15 0 (40 * a + b) = zp_cw (zp_one A a b)) ∧ k.1 16 0 5 = h.1 16 0 5
theorem zp_fM_refl (A : zd_A) (m : Nat) (h : zx_H) : zp_fM A m h h := ⟨fun _ _ _ _ _ _ _ => rfl, fun _ _ => rfl, fun _ _ _ => rfl, fun _ _ _ => rfl, fun _ _ _ => ⟨rfl, rfl, rfl⟩, fun _ _ _ _ => Or.inl rfl, rfl⟩
theorem zp_fM_trans {A : zd_A} {m : Nat} {h k l : zx_H} (x : zp_fM A m h k) (y : zp_fM A m k l) : zp_fM A m h l := ⟨fun F a b c d e f => (y.1 F a b c d e f).trans (x.1 F a b c d e f), fun F a => (y.2.1 F a).trans (x.2.1 F a), fun i j c => (y.2.2.1 i j c).trans (x.2.2.1 i j c), fun i j c => (y.2.2.2.1 i j c).trans (x.2.2.2.1 i j c), fun a j c => ⟨(y.2.2.2.2.1 a j c).1.trans (x.2.2.2.2.1 a j c).1, (y.2.2.2.2.1 a j c).2.1.trans (x.2.2.2.2.1 a j c).2.1, (y.2.2.2.2.1 a j c).2.2.trans (x.2.2.2.2.1 a j c).2.2⟩, fun a b ha hb => by
  rcases y.2.2.2.2.2.1 a b ha hb with e | e
  · rw [e]; exact x.2.2.2.2.2.1 a b ha hb
  · exact Or.inr e, y.2.2.2.2.2.2.trans x.2.2.2.2.2.2⟩
theorem zp_fM_P {A : zd_A} {m i : Nat} (hi : 8 * m ≤ i ∧ i < 8 * m + 8) {h k : zx_H} (x : zp_fP A i h k) : zp_fM A m h k := ⟨fun F a _ _ _ b c => x.1 F a b c, x.2.1, fun a j _ => by rw [x.1 54 (by decide) (by decide) (by decide)], fun a j _ => by rw [x.1 59 (by decide) (by decide) (by decide)], fun a j c => x.2.2.1 a j (by omega), x.2.2.2, by rw [x.1 16 (by decide) (by decide) (by decide)]⟩
theorem zp_fM_T {A : zd_A} {m : Nat} (hm16 : m < 16) {h k : zx_H} (x : zp_fT 128 h k) : zp_fM A m h k := ⟨fun F _ _ _ _ b c => x.1 F b c, fun F _ => by rw [x.2.1], fun a j _ => by rw [x.1 54 (by decide) (by decide)], fun a j _ => by rw [x.1 59 (by decide) (by decide)], fun a j c => by
  by_cases e : a = 128
  · exact absurd e (by omega)
  · exact ⟨x.2.2.1 a j (fun z => e z.1), by rw [x.2.1], x.2.2.2 a j e⟩, fun a b _ _ => Or.inl (by rw [x.1 15 (by decide) (by decide)]), by rw [x.1 16 (by decide) (by decide)]⟩
theorem zp_fM_16 {A : zd_A} {m : Nat} (h : zx_H) {j : Nat} (hj : j ≠ 5) (v : Int32) : zp_fM A m h (zx_sI h 16 0 j v) := ⟨fun F _ a _ _ _ _ => ze_sIF _ _ _ _ a, fun _ _ => rfl, fun a c _ => ze_gIn _ _ _ _ _ _ _ _ (by omega), fun a c _ => ze_gIn _ _ _ _ _ _ _ _ (by omega), fun a c _ => ⟨ze_gIn _ _ _ _ _ _ _ _ (by omega), rfl, ze_gIn _ _ _ _ _ _ _ _ (by omega)⟩, fun a b _ _ => Or.inl (ze_gIn _ _ _ _ _ _ _ _ (by omega)), ze_gIn _ _ _ _ _ _ _ _ (by omega)⟩
theorem zp_fM_54 {A : zd_A} {m : Nat} (h : zx_H) {j : Nat} (hj : j = 6 ∨ j = 7) (v : Int32) : zp_fM A m h (zx_sI h 54 m j v) := ⟨fun F _ _ a _ _ _ => ze_sIF _ _ _ _ a, fun _ _ => rfl, fun a c hc => ze_gIn _ _ _ _ _ _ _ _ (fun e => hc ⟨e.2.1, by omega⟩), fun a c _ => ze_gIn _ _ _ _ _ _ _ _ (by omega), fun a c _ => ⟨ze_gIn _ _ _ _ _ _ _ _ (by omega), rfl, ze_gIn _ _ _ _ _ _ _ _ (by omega)⟩, fun a b _ _ => Or.inl (ze_gIn _ _ _ _ _ _ _ _ (by omega)), ze_gIn _ _ _ _ _ _ _ _ (by omega)⟩
theorem zp_fM_59 {A : zd_A} {m : Nat} (h : zx_H) (j : Nat) (v : Int32) : zp_fM A m h (zx_sI h 59 m j v) := ⟨fun F _ _ _ a _ _ => ze_sIF _ _ _ _ a, fun _ _ => rfl, fun a c hc => ze_gIn _ _ _ _ _ _ _ _ (by omega), fun a c hc => ze_gIn _ _ _ _ _ _ _ _ (fun e => hc e.2.1), fun a c _ => ⟨ze_gIn _ _ _ _ _ _ _ _ (by omega), rfl, ze_gIn _ _ _ _ _ _ _ _ (by omega)⟩, fun a b _ _ => Or.inl (ze_gIn _ _ _ _ _ _ _ _ (by omega)), ze_gIn _ _ _ _ _ _ _ _ (by omega)⟩
theorem zp_fM_kD {A : zd_A} {m : Nat} {h k : zx_H} (x : zp_fM A m h k) : zd_kD h k := ⟨fun F hF => x.1 F (by omega) (by omega) (by omega) (by omega) (by omega) (by omega), fun i j _ => by rw [x.1 53 (by decide) (by decide) (by decide) (by decide) (by decide) (by decide)], fun i j hj => x.2.2.1 i j (by omega), x.1 55 (by decide) (by decide) (by decide) (by decide) (by decide) (by decide), x.1 56 (by decide) (by decide) (by decide) (by decide) (by decide) (by decide), x.2.1 57 (by decide), x.2.1 10 (by decide)⟩
theorem zd_kD_trans {h k l : zx_H} (a : zd_kD h k) (b : zd_kD k l) : zd_kD h l := ⟨fun F hF => (b.1 F hF).trans (a.1 F hF), fun i j hj => (b.2.1 i j hj).trans (a.2.1 i j hj), fun i j hj => (b.2.2.1 i j hj).trans (a.2.2.1 i j hj), b.2.2.2.1.trans a.2.2.2.1, b.2.2.2.2.1.trans a.2.2.2.2.1, b.2.2.2.2.2.1.trans a.2.2.2.2.2.1, b.2.2.2.2.2.2.trans a.2.2.2.2.2.2⟩
theorem zp_fM_N {A : zd_A} {m : Nat} {h k : zx_H} (x : zp_fM A m h k) (N : zp_N A h) : zp_N A k := fun f hf => by rw [x.1 53 (by decide) (by decide) (by decide) (by decide) (by decide) (by decide)]; exact N f hf
theorem zp_note (h : zx_H) (w : Nat) (hw : w < 8) (x : Int32) : zs_Planner_note (nI w) x h = some (if w = 0 then h else zx_sI (zx_sI h 16 0 4 (nI w)) 16 0 6 x) := by
  by_cases e : w = 0
  · rw [if_pos e]
    simp (disch := omega) only [zs_Planner_note, e, ↓zd_bnd, ↓zy_bm, if_true, if_false, ite_true, ite_false, ↓reduceIte, Bool.false_eq_true, Bool.true_eq_false, eq_self, true_and, and_true, false_and, and_false, reduceCtorEq, decide_true, decide_false, not_true_eq_false, not_false_eq_true, ze_ltT, ze_ltF, ze_leT, ze_leF, ze_eqT, ze_eqF, ze_mlt, ze_ltm, ze_mle, ze_lem, ze_meq, ze_eqm, ze_mm, ze_mltm, ze_inT, ze_inF, ze_inM, ze_cl, ze_fin, ze_decT, ze_decF, Nat.reduceSub, Nat.reduceMul, nI_add, Nat.add_sub_cancel, Nat.add_assoc, Nat.reduceAdd, ze_r8, ze_r24, ze_r40, ze_r400, ze_l8, ze_l16, ze_l24, ze_l40, ze_sub, ze_am1, ze_es, ze_en, ze_i64, ze_m64, ze_64i, ze_64m, ze_LltT, ze_LltF, ze_LleT, ze_LleF, ze_LeqT, ze_LeqF, ze_Lmlt, ze_Lltm, ze_Lmle, ze_Llem, ze_Lmeq, ze_Leqm, ze_Lmm, lN_add, ze_ch, ze_chd, ze_bt, ze_bf, ze_n0, ze_n1, ze_n2, ze_n3, ze_n4, ze_n5, ze_n6, ze_n7, ze_n8, ze_n9, ze_n10, ze_n11, ze_n12, ze_n13, ze_n14, ze_n15, ze_n16, ze_n17, ze_n18, ze_n19, ze_n20, ze_n21, ze_n22, ze_n23, ze_n24, ze_n25, ze_n26, ze_n27, ze_n28, ze_n29, ze_n30, ze_n31, ze_n32, ze_n33, ze_n34, ze_n35, ze_n36, ze_n37, ze_n38, ze_n39, ze_n40, ze_n48, ze_n63, ze_n64, ze_n65, ze_n80, ze_n100, ze_n128, ze_n200, ze_n255, ze_n300, ze_n320, ze_n384, ze_n400, ze_n512, ze_n1023, ze_n1600, ze_n6400, ze_n9600, ze_n32768, ze_n65535, ze_n65536, ze_n802, ze_n8191, ze_L0, ze_L1, ze_L2, ze_L3, ze_L4, ze_L5, ze_L6, ze_L7, ze_L8, ze_L9, ze_L10, ze_L15, ze_L16, ze_L24, ze_L40, ze_L48, ze_L63, ze_L64, ze_L127, ze_L255, ze_L400, ze_L1024, ze_L2047, ze_L65535]
  · rw [if_neg e]
    simp (disch := omega) only [zs_Planner_note, ↓zd_bnd, ↓zy_bm, if_true, if_false, ite_true, ite_false, ↓reduceIte, Bool.false_eq_true, Bool.true_eq_false, eq_self, true_and, and_true, false_and, and_false, reduceCtorEq, decide_true, decide_false, not_true_eq_false, not_false_eq_true, ze_ltT, ze_ltF, ze_leT, ze_leF, ze_eqT, ze_eqF, ze_mlt, ze_ltm, ze_mle, ze_lem, ze_meq, ze_eqm, ze_mm, ze_mltm, ze_inT, ze_inF, ze_inM, ze_cl, ze_fin, ze_decT, ze_decF, Nat.reduceSub, Nat.reduceMul, nI_add, Nat.add_sub_cancel, Nat.add_assoc, Nat.reduceAdd, ze_r8, ze_r24, ze_r40, ze_r400, ze_l8, ze_l16, ze_l24, ze_l40, ze_sub, ze_am1, ze_es, ze_en, ze_i64, ze_m64, ze_64i, ze_64m, ze_LltT, ze_LltF, ze_LleT, ze_LleF, ze_LeqT, ze_LeqF, ze_Lmlt, ze_Lltm, ze_Lmle, ze_Llem, ze_Lmeq, ze_Leqm, ze_Lmm, lN_add, ze_ch, ze_chd, ze_bt, ze_bf, ze_n0, ze_n1, ze_n2, ze_n3, ze_n4, ze_n5, ze_n6, ze_n7, ze_n8, ze_n9, ze_n10, ze_n11, ze_n12, ze_n13, ze_n14, ze_n15, ze_n16, ze_n17, ze_n18, ze_n19, ze_n20, ze_n21, ze_n22, ze_n23, ze_n24, ze_n25, ze_n26, ze_n27, ze_n28, ze_n29, ze_n30, ze_n31, ze_n32, ze_n33, ze_n34, ze_n35, ze_n36, ze_n37, ze_n38, ze_n39, ze_n40, ze_n48, ze_n63, ze_n64, ze_n65, ze_n80, ze_n100, ze_n128, ze_n200, ze_n255, ze_n300, ze_n320, ze_n384, ze_n400, ze_n512, ze_n1023, ze_n1600, ze_n6400, ze_n9600, ze_n32768, ze_n65535, ze_n65536, ze_n802, ze_n8191, ze_L0, ze_L1, ze_L2, ze_L3, ze_L4, ze_L5, ze_L6, ze_L7, ze_L8, ze_L9, ze_L10, ze_L15, ze_L16, ze_L24, ze_L40, ze_L48, ze_L63, ze_L64, ze_L127, ze_L255, ze_L400, ze_L1024, ze_L2047, ze_L65535]
theorem zp_wr8 (A : zd_A) (m r : Nat) : zp_wr A m r < 8 := by
  have h4 : zp_w4 A m r < 8 := by
    unfold zp_w4
    repeat' split
    all_goals omega
  unfold zp_wr
  repeat' split
  all_goals first | omega | exact h4
theorem zp_wb8 (A : zd_A) (m n e y : Nat) : zp_wb A m n e y < 8 := by
  unfold zp_wb
  have := zp_ww7 (zp_hw A e y)
  repeat' split
  all_goals omega
theorem zp_w18 (A : zd_A) (m p : Nat) : zp_w1 A m p < 8 := by
  have h4 : zp_wc A m p < 8 := by
    unfold zp_wc
    repeat' split
    all_goals first | omega | exact zp_wb8 _ _ _ _ _
  unfold zp_w1
  have := zp_ww7 (zp_hw A 4 (zp_y A m p))
  repeat' split
  all_goals omega
theorem zp_w28 (A : zd_A) (m p : Nat) : zp_w2 A m p < 8 := by
  unfold zp_w2
  have := zp_ww7 (zp_hw A 4 (zp_y A m p))
  repeat' split
  all_goals omega
def zp_rf (A : zd_A) (m r : Nat) : Bool := decide (zp_wr A m r ≠ 0)
/-- the rules of a method, one by one -/
theorem zp_C_rules {A : zd_A} {h0 h : zx_H} (H : zd_C A h0) (K : zd_ok A) {m : Nat} (hm : m < zd_M A) (hm16 : m < 16) (D : zd_kD h0 h) (hf : h.1 16 0 4 = nI 0) : ∃ k, zs_Planner_planMethod_L16 ⟨m, hm16⟩ (nI 0) h = zs_Planner_planMethod_J48 ⟨m, hm16⟩ k ∧ zp_fM A m h k ∧ k.1 54 m 6 = h.1 54 m 6 ∧ (match zd_first (zp_rf A m) (zd_rc A m) with | none => k.1 16 0 4 = nI 0 ∧ k.1 16 0 6 = h.1 16 0 6 | some r => k.1 16 0 4 = nI (zp_wr A m r) ∧ k.1 16 0 6 = nI r) := by
  have hr24 := zd_ok_rc K m hm16
  have key : ∀ d r F (s : zx_H), r + d = zd_rc A m → d + 1 < F → (∀ q, q < r → zp_rf A m q = false) → zp_fM A m h s → s.1 54 m 6 = h.1 54 m 6 → s.1 16 0 4 = nI 0 → s.1 16 0 6 = h.1 16 0 6 → ∃ k, zx_loop (fun _ _ _ => none) zs_Planner_planMethod_L16_body F (⟨m, hm16⟩ : Fin 16) (nI r) s = zs_Planner_planMethod_J48 ⟨m, hm16⟩ k ∧ zp_fM A m h k ∧ k.1 54 m 6 = h.1 54 m 6 ∧ (match zd_first (zp_rf A m) (zd_rc A m) with | none => k.1 16 0 4 = nI 0 ∧ k.1 16 0 6 = h.1 16 0 6 | some r => k.1 16 0 4 = nI (zp_wr A m r) ∧ k.1 16 0 6 = nI r) := by
    intro d
    induction d with
    | zero =>
      intro r F s hr hF hq x x6 s4 s6
      obtain ⟨F, rfl⟩ : ∃ G, F = G + 1 := ⟨F - 1, by omega⟩
      have hr : r = zd_rc A m := hr
      have Hs := zq_C H (zd_kD_trans D (zp_fM_kD x))
      have c := zd_C_rc Hs m hm16
      have c : s.1 54 m 2 = nI (zd_rc A m) := c
      refine ⟨s, ?_, x, x6, ?_⟩
      · show zs_Planner_planMethod_L16_body _ (⟨m, hm16⟩ : Fin 16) (nI r) s = _
        simp (disch := omega) only [zs_Planner_planMethod_L16_body, c, hr, ↓zd_bnd, ↓zy_bm, if_true, if_false, ite_true, ite_false, ↓reduceIte, Bool.false_eq_true, Bool.true_eq_false, eq_self, true_and, and_true, false_and, and_false, reduceCtorEq, decide_true, decide_false, not_true_eq_false, not_false_eq_true, ze_ltT, ze_ltF, ze_leT, ze_leF, ze_eqT, ze_eqF, ze_mlt, ze_ltm, ze_mle, ze_lem, ze_meq, ze_eqm, ze_mm, ze_mltm, ze_inT, ze_inF, ze_inM, ze_cl, ze_fin, ze_decT, ze_decF, Nat.reduceSub, Nat.reduceMul, nI_add, Nat.add_sub_cancel, Nat.add_assoc, Nat.reduceAdd, ze_r8, ze_r24, ze_r40, ze_r400, ze_l8, ze_l16, ze_l24, ze_l40, ze_sub, ze_am1, ze_es, ze_en, ze_i64, ze_m64, ze_64i, ze_64m, ze_LltT, ze_LltF, ze_LleT, ze_LleF, ze_LeqT, ze_LeqF, ze_Lmlt, ze_Lltm, ze_Lmle, ze_Llem, ze_Lmeq, ze_Leqm, ze_Lmm, lN_add, ze_ch, ze_chd, ze_bt, ze_bf, ze_n0, ze_n1, ze_n2, ze_n3, ze_n4, ze_n5, ze_n6, ze_n7, ze_n8, ze_n9, ze_n10, ze_n11, ze_n12, ze_n13, ze_n14, ze_n15, ze_n16, ze_n17, ze_n18, ze_n19, ze_n20, ze_n21, ze_n22, ze_n23, ze_n24, ze_n25, ze_n26, ze_n27, ze_n28, ze_n29, ze_n30, ze_n31, ze_n32, ze_n33, ze_n34, ze_n35, ze_n36, ze_n37, ze_n38, ze_n39, ze_n40, ze_n48, ze_n63, ze_n64, ze_n65, ze_n80, ze_n100, ze_n128, ze_n200, ze_n255, ze_n300, ze_n320, ze_n384, ze_n400, ze_n512, ze_n1023, ze_n1600, ze_n6400, ze_n9600, ze_n32768, ze_n65535, ze_n65536, ze_n802, ze_n8191, ze_L0, ze_L1, ze_L2, ze_L3, ze_L4, ze_L5, ze_L6, ze_L7, ze_L8, ze_L9, ze_L10, ze_L15, ze_L16, ze_L24, ze_L40, ze_L48, ze_L63, ze_L64, ze_L127, ze_L255, ze_L400, ze_L1024, ze_L2047, ze_L65535]
      · rw [zd_first_none.mpr (fun q hq2 => hq q (by omega))]
        exact ⟨s4, s6⟩
    | succ d ih =>
      intro r F s hr hF hq x x6 s4 s6
      obtain ⟨F, rfl⟩ : ∃ G, F = G + 2 := ⟨F - 2, by omega⟩
      have Hs := zq_C H (zd_kD_trans D (zp_fM_kD x))
      have c : s.1 54 m 2 = nI (zd_rc A m) := zd_C_rc Hs m hm16
      obtain ⟨k, w1, w2⟩ := zp_C_wr Hs (zq_ok K _ _ _) (m := m) (r := r) hm hm16 (by show r < zd_rc A m; omega)
      rw [zq_wr] at w1
      have w8 := zp_wr8 A m r
      have nt := zp_note k (zp_wr A m r) w8 (nI r)
      have x1 := zp_fM_trans x (zp_fM_T (A := A) (m := m) hm16 w2)
      have k6 : k.1 54 m 6 = h.1 54 m 6 := by rw [w2.1 54 (by decide) (by decide)]; exact x6
      have k4 : k.1 16 0 4 = nI 0 := by rw [w2.1 16 (by decide) (by decide)]; exact s4
      have k66 : k.1 16 0 6 = h.1 16 0 6 := by rw [w2.1 16 (by decide) (by decide)]; exact s6
      cases hc : zp_rf A m r with
      | false =>
        have e0 : zp_wr A m r = 0 := by
          unfold zp_rf at hc
          exact Classical.not_not.mp (of_decide_eq_false hc)
        obtain ⟨k2, f1, f2⟩ := ih (r + 1) (F + 1) k (by omega) (by omega) (fun q hq2 => by
          by_cases z : q = r
          · rw [z]; exact hc
          · exact hq q (by omega)) x1 k6 k4 k66
        refine ⟨k2, ?_, f2⟩
        rw [← f1]
        rw [e0] at w1 nt
        rw [if_pos rfl] at nt
        show zs_Planner_planMethod_L16_body (zx_loop (fun _ _ _ => none) zs_Planner_planMethod_L16_body (F + 1)) (⟨m, hm16⟩ : Fin 16) (nI r) s = _
        simp (disch := omega) only [zs_Planner_planMethod_L16_body, c, s4, w1, nt, ↓zd_bnd, ↓zy_bm, if_true, if_false, ite_true, ite_false, ↓reduceIte, Bool.false_eq_true, Bool.true_eq_false, eq_self, true_and, and_true, false_and, and_false, reduceCtorEq, decide_true, decide_false, not_true_eq_false, not_false_eq_true, ze_ltT, ze_ltF, ze_leT, ze_leF, ze_eqT, ze_eqF, ze_mlt, ze_ltm, ze_mle, ze_lem, ze_meq, ze_eqm, ze_mm, ze_mltm, ze_inT, ze_inF, ze_inM, ze_cl, ze_fin, ze_decT, ze_decF, Nat.reduceSub, Nat.reduceMul, nI_add, Nat.add_sub_cancel, Nat.add_assoc, Nat.reduceAdd, ze_r8, ze_r24, ze_r40, ze_r400, ze_l8, ze_l16, ze_l24, ze_l40, ze_sub, ze_am1, ze_es, ze_en, ze_i64, ze_m64, ze_64i, ze_64m, ze_LltT, ze_LltF, ze_LleT, ze_LleF, ze_LeqT, ze_LeqF, ze_Lmlt, ze_Lltm, ze_Lmle, ze_Llem, ze_Lmeq, ze_Leqm, ze_Lmm, lN_add, ze_ch, ze_chd, ze_bt, ze_bf, ze_n0, ze_n1, ze_n2, ze_n3, ze_n4, ze_n5, ze_n6, ze_n7, ze_n8, ze_n9, ze_n10, ze_n11, ze_n12, ze_n13, ze_n14, ze_n15, ze_n16, ze_n17, ze_n18, ze_n19, ze_n20, ze_n21, ze_n22, ze_n23, ze_n24, ze_n25, ze_n26, ze_n27, ze_n28, ze_n29, ze_n30, ze_n31, ze_n32, ze_n33, ze_n34, ze_n35, ze_n36, ze_n37, ze_n38, ze_n39, ze_n40, ze_n48, ze_n63, ze_n64, ze_n65, ze_n80, ze_n100, ze_n128, ze_n200, ze_n255, ze_n300, ze_n320, ze_n384, ze_n400, ze_n512, ze_n1023, ze_n1600, ze_n6400, ze_n9600, ze_n32768, ze_n65535, ze_n65536, ze_n802, ze_n8191, ze_L0, ze_L1, ze_L2, ze_L3, ze_L4, ze_L5, ze_L6, ze_L7, ze_L8, ze_L9, ze_L10, ze_L15, ze_L16, ze_L24, ze_L40, ze_L48, ze_L63, ze_L64, ze_L127, ze_L255, ze_L400, ze_L1024, ze_L2047, ze_L65535]
      | true =>
        have e0 : zp_wr A m r ≠ 0 := by
          unfold zp_rf at hc
          exact of_decide_eq_true hc
        rw [if_neg e0] at nt
        have x2 : zp_fM A m h (zx_sI (zx_sI k 16 0 4 (nI (zp_wr A m r))) 16 0 6 (nI r)) := zp_fM_trans (zp_fM_trans x1 (zp_fM_16 k (by decide) _)) (zp_fM_16 _ (by decide) _)
        have H2 := zq_C H (zd_kD_trans D (zp_fM_kD x2))
        have c2 : (zx_sI (zx_sI k 16 0 4 (nI (zp_wr A m r))) 16 0 6 (nI r)).1 54 m 2 = nI (zd_rc A m) := zd_C_rc H2 m hm16
        have f4 : (zx_sI (zx_sI k 16 0 4 (nI (zp_wr A m r))) 16 0 6 (nI r)).1 16 0 4 = nI (zp_wr A m r) := by simp (disch := omega) only [ze_gIs, ze_gIn, ze_gJs, ze_gJn, zd_gI2, zd_gJ1, ze_sII]
        refine ⟨_, ?_, x2, ?_, ?_⟩
        · have st : zs_Planner_planMethod_L16_body (zx_loop (fun _ _ _ => none) zs_Planner_planMethod_L16_body F) (⟨m, hm16⟩ : Fin 16) (nI (r + 1)) (zx_sI (zx_sI k 16 0 4 (nI (zp_wr A m r))) 16 0 6 (nI r)) = zs_Planner_planMethod_J48 ⟨m, hm16⟩ (zx_sI (zx_sI k 16 0 4 (nI (zp_wr A m r))) 16 0 6 (nI r)) := by
            by_cases z : zd_rc A m ≤ r + 1
            · simp (disch := omega) only [zs_Planner_planMethod_L16_body, c2, ↓zd_bnd, ↓zy_bm, if_true, if_false, ite_true, ite_false, ↓reduceIte, Bool.false_eq_true, Bool.true_eq_false, eq_self, true_and, and_true, false_and, and_false, reduceCtorEq, decide_true, decide_false, not_true_eq_false, not_false_eq_true, ze_ltT, ze_ltF, ze_leT, ze_leF, ze_eqT, ze_eqF, ze_mlt, ze_ltm, ze_mle, ze_lem, ze_meq, ze_eqm, ze_mm, ze_mltm, ze_inT, ze_inF, ze_inM, ze_cl, ze_fin, ze_decT, ze_decF, Nat.reduceSub, Nat.reduceMul, nI_add, Nat.add_sub_cancel, Nat.add_assoc, Nat.reduceAdd, ze_r8, ze_r24, ze_r40, ze_r400, ze_l8, ze_l16, ze_l24, ze_l40, ze_sub, ze_am1, ze_es, ze_en, ze_i64, ze_m64, ze_64i, ze_64m, ze_LltT, ze_LltF, ze_LleT, ze_LleF, ze_LeqT, ze_LeqF, ze_Lmlt, ze_Lltm, ze_Lmle, ze_Llem, ze_Lmeq, ze_Leqm, ze_Lmm, lN_add, ze_ch, ze_chd, ze_bt, ze_bf, ze_n0, ze_n1, ze_n2, ze_n3, ze_n4, ze_n5, ze_n6, ze_n7, ze_n8, ze_n9, ze_n10, ze_n11, ze_n12, ze_n13, ze_n14, ze_n15, ze_n16, ze_n17, ze_n18, ze_n19, ze_n20, ze_n21, ze_n22, ze_n23, ze_n24, ze_n25, ze_n26, ze_n27, ze_n28, ze_n29, ze_n30, ze_n31, ze_n32, ze_n33, ze_n34, ze_n35, ze_n36, ze_n37, ze_n38, ze_n39, ze_n40, ze_n48, ze_n63, ze_n64, ze_n65, ze_n80, ze_n100, ze_n128, ze_n200, ze_n255, ze_n300, ze_n320, ze_n384, ze_n400, ze_n512, ze_n1023, ze_n1600, ze_n6400, ze_n9600, ze_n32768, ze_n65535, ze_n65536, ze_n802, ze_n8191, ze_L0, ze_L1, ze_L2, ze_L3, ze_L4, ze_L5, ze_L6, ze_L7, ze_L8, ze_L9, ze_L10, ze_L15, ze_L16, ze_L24, ze_L40, ze_L48, ze_L63, ze_L64, ze_L127, ze_L255, ze_L400, ze_L1024, ze_L2047, ze_L65535]
            · simp (disch := omega) only [zs_Planner_planMethod_L16_body, c2, f4, ↓zd_bnd, ↓zy_bm, if_true, if_false, ite_true, ite_false, ↓reduceIte, Bool.false_eq_true, Bool.true_eq_false, eq_self, true_and, and_true, false_and, and_false, reduceCtorEq, decide_true, decide_false, not_true_eq_false, not_false_eq_true, ze_ltT, ze_ltF, ze_leT, ze_leF, ze_eqT, ze_eqF, ze_mlt, ze_ltm, ze_mle, ze_lem, ze_meq, ze_eqm, ze_mm, ze_mltm, ze_inT, ze_inF, ze_inM, ze_cl, ze_fin, ze_decT, ze_decF, Nat.reduceSub, Nat.reduceMul, nI_add, Nat.add_sub_cancel, Nat.add_assoc, Nat.reduceAdd, ze_r8, ze_r24, ze_r40, ze_r400, ze_l8, ze_l16, ze_l24, ze_l40, ze_sub, ze_am1, ze_es, ze_en, ze_i64, ze_m64, ze_64i, ze_64m, ze_LltT, ze_LltF, ze_LleT, ze_LleF, ze_LeqT, ze_LeqF, ze_Lmlt, ze_Lltm, ze_Lmle, ze_Llem, ze_Lmeq, ze_Leqm, ze_Lmm, lN_add, ze_ch, ze_chd, ze_bt, ze_bf, ze_n0, ze_n1, ze_n2, ze_n3, ze_n4, ze_n5, ze_n6, ze_n7, ze_n8, ze_n9, ze_n10, ze_n11, ze_n12, ze_n13, ze_n14, ze_n15, ze_n16, ze_n17, ze_n18, ze_n19, ze_n20, ze_n21, ze_n22, ze_n23, ze_n24, ze_n25, ze_n26, ze_n27, ze_n28, ze_n29, ze_n30, ze_n31, ze_n32, ze_n33, ze_n34, ze_n35, ze_n36, ze_n37, ze_n38, ze_n39, ze_n40, ze_n48, ze_n63, ze_n64, ze_n65, ze_n80, ze_n100, ze_n128, ze_n200, ze_n255, ze_n300, ze_n320, ze_n384, ze_n400, ze_n512, ze_n1023, ze_n1600, ze_n6400, ze_n9600, ze_n32768, ze_n65535, ze_n65536, ze_n802, ze_n8191, ze_L0, ze_L1, ze_L2, ze_L3, ze_L4, ze_L5, ze_L6, ze_L7, ze_L8, ze_L9, ze_L10, ze_L15, ze_L16, ze_L24, ze_L40, ze_L48, ze_L63, ze_L64, ze_L127, ze_L255, ze_L400, ze_L1024, ze_L2047, ze_L65535]
          rw [← st]
          show zs_Planner_planMethod_L16_body (zs_Planner_planMethod_L16_body (zx_loop (fun _ _ _ => none) zs_Planner_planMethod_L16_body F)) (⟨m, hm16⟩ : Fin 16) (nI r) s = _
          generalize zs_Planner_planMethod_L16_body (zx_loop (fun _ _ _ => none) zs_Planner_planMethod_L16_body F) = k9
          simp (disch := omega) only [zs_Planner_planMethod_L16_body, c, s4, w1, nt, ↓zd_bnd, ↓zy_bm, if_true, if_false, ite_true, ite_false, ↓reduceIte, Bool.false_eq_true, Bool.true_eq_false, eq_self, true_and, and_true, false_and, and_false, reduceCtorEq, decide_true, decide_false, not_true_eq_false, not_false_eq_true, ze_ltT, ze_ltF, ze_leT, ze_leF, ze_eqT, ze_eqF, ze_mlt, ze_ltm, ze_mle, ze_lem, ze_meq, ze_eqm, ze_mm, ze_mltm, ze_inT, ze_inF, ze_inM, ze_cl, ze_fin, ze_decT, ze_decF, Nat.reduceSub, Nat.reduceMul, nI_add, Nat.add_sub_cancel, Nat.add_assoc, Nat.reduceAdd, ze_r8, ze_r24, ze_r40, ze_r400, ze_l8, ze_l16, ze_l24, ze_l40, ze_sub, ze_am1, ze_es, ze_en, ze_i64, ze_m64, ze_64i, ze_64m, ze_LltT, ze_LltF, ze_LleT, ze_LleF, ze_LeqT, ze_LeqF, ze_Lmlt, ze_Lltm, ze_Lmle, ze_Llem, ze_Lmeq, ze_Leqm, ze_Lmm, lN_add, ze_ch, ze_chd, ze_bt, ze_bf, ze_n0, ze_n1, ze_n2, ze_n3, ze_n4, ze_n5, ze_n6, ze_n7, ze_n8, ze_n9, ze_n10, ze_n11, ze_n12, ze_n13, ze_n14, ze_n15, ze_n16, ze_n17, ze_n18, ze_n19, ze_n20, ze_n21, ze_n22, ze_n23, ze_n24, ze_n25, ze_n26, ze_n27, ze_n28, ze_n29, ze_n30, ze_n31, ze_n32, ze_n33, ze_n34, ze_n35, ze_n36, ze_n37, ze_n38, ze_n39, ze_n40, ze_n48, ze_n63, ze_n64, ze_n65, ze_n80, ze_n100, ze_n128, ze_n200, ze_n255, ze_n300, ze_n320, ze_n384, ze_n400, ze_n512, ze_n1023, ze_n1600, ze_n6400, ze_n9600, ze_n32768, ze_n65535, ze_n65536, ze_n802, ze_n8191, ze_L0, ze_L1, ze_L2, ze_L3, ze_L4, ze_L5, ze_L6, ze_L7, ze_L8, ze_L9, ze_L10, ze_L15, ze_L16, ze_L24, ze_L40, ze_L48, ze_L63, ze_L64, ze_L127, ze_L255, ze_L400, ze_L1024, ze_L2047, ze_L65535]
        · simp (disch := omega) only [ze_gIs, ze_gIn, ze_gJs, ze_gJn, zd_gI2, zd_gJ1, ze_sII]; exact k6
        · rw [zd_first_some.mpr ⟨by omega, hc, hq⟩]
          exact ⟨f4, ze_gIs _ _ _ _ _⟩
  have k := key (zd_rc A m) 0 zx_fuel h (by omega) (by unfold zx_fuel; omega) (fun q hq => absurd hq (Nat.not_lt_zero q)) (zp_fM_refl A m h) rfl hf rfl
  exact k
