/-! a property is planned -/
def zp_ww (w : Nat) : Nat := if w = 0 then 6 else if w = 1 then 7 else 0
def zp_wb (A : zd_A) (m n e y : Nat) : Nat := match zp_fr A m 4 (nI n) with
  | none => zp_ww (zp_hw A e y)
  | some r => match zp_fn A (zd_wh A m r) with
    | none => 6
    | some f => if zd_ff A f = e ∧ zd_ft A f = y then 0 else 6
def zp_n (A : zd_A) (m p : Nat) : Nat := zd_nm A (zd_mt A m) p
def zp_y (A : zd_A) (m p : Nat) : Nat := zd_pt A (zd_mt A m) p
def zp_wc (A : zd_A) (m p : Nat) : Nat := match zp_src A m (zp_n A m p) with
  | none => 5
  | some w => match zp_end A (zd_mf A m) w with
    | none => 5
    | some e => zp_wb A m (zp_n A m p) e (zp_y A m p)
def zp_w1 (A : zd_A) (m p : Nat) : Nat := if (zp_fr A m 2 (nI (zp_n A m p))).isSome = true then 0 else if (zp_fr A m 1 (nI (zp_n A m p))).isSome = true then zp_ww (zp_hw A 4 (zp_y A m p)) else zp_wc A m p
def zp_w2 (A : zd_A) (m p : Nat) : Nat := if (zp_fr A m 2 (nI (zp_n A m p))).isSome = true then 0 else if (zp_fr A m 1 (nI (zp_n A m p))).isSome = true then 0 else if (zp_fr A m 3 (nI (zp_n A m p))).isSome = true then zp_ww (zp_hw A 4 (zp_y A m p)) else 0
def zp_wp (A : zd_A) (m p : Nat) : Nat := if zp_w1 A m p ≠ 0 then zp_w1 A m p else zp_w2 A m p
theorem zp_ppe {m p : Nat} (h1 : m < 16) (h2 : p < 8) : zx_pp ⟨m, h1⟩ ⟨p, h2⟩ = ⟨8 * m + p, by omega⟩ := rfl
/-- only row i of the plans is written, and ways found are noted rightly -/
def zp_fP (A : zd_A) (i : Nat) (h k : zx_H) : Prop := (∀ F, F ≠ 15 → F ≠ 60 → F ≠ 61 → k.1 F = h.1 F) ∧ (∀ F, F ≠ 60 → k.2 F = h.2 F) ∧ (∀ a j, a ≠ i → k.1 60 a j = h.1 60 a j ∧ k.2 60 a j = h.2 60 a j ∧ k.1 61 a j = h.1 61 a j) ∧ (∀ a b, a < zd_T A → b < zd_T A → k.1 15 0 (40 * a + b) = h.1 15 0 (40 * a + b) ∨ k.1 15 0 (40 * a + b) = zp_cw (zp_one A a b))
theorem zp_fP_refl (A : zd_A) (i : Nat) (h : zx_H) : zp_fP A i h h := ⟨fun _ _ _ _ => rfl, fun _ _ => rfl, fun _ _ _ => ⟨rfl, rfl, rfl⟩, fun _ _ _ _ => Or.inl rfl⟩
theorem zp_fP_trans {A : zd_A} {i : Nat} {h k l : zx_H} (x : zp_fP A i h k) (y : zp_fP A i k l) : zp_fP A i h l := ⟨fun F a b c => (y.1 F a b c).trans (x.1 F a b c), fun F a => (y.2.1 F a).trans (x.2.1 F a), fun a j c => ⟨(y.2.2.1 a j c).1.trans (x.2.2.1 a j c).1, (y.2.2.1 a j c).2.1.trans (x.2.2.1 a j c).2.1, (y.2.2.1 a j c).2.2.trans (x.2.2.1 a j c).2.2⟩, fun a b ha hb => by
  rcases y.2.2.2 a b ha hb with e | e
  · rw [e]; exact x.2.2.2 a b ha hb
  · exact Or.inr e⟩
theorem zp_fP_I {A : zd_A} {i : Nat} {h k : zx_H} (x : zp_fP A i h k) (j : Nat) (v : Int32) : zp_fP A i h (zx_sI k 60 i j v) :=
  zp_fP_trans x ⟨fun F _ a _ => ze_sIF _ _ _ _ a, fun _ _ => rfl, fun a c hc => ⟨ze_gIn _ _ _ _ _ _ _ _ (fun e => hc e.2.1), rfl, ze_gIn _ _ _ _ _ _ _ _ (by omega)⟩, fun a b _ _ => Or.inl (ze_gIn _ _ _ _ _ _ _ _ (by omega))⟩
theorem zp_fP_J {A : zd_A} {i : Nat} {h k : zx_H} (x : zp_fP A i h k) (j : Nat) (v : Int64) : zp_fP A i h (zx_sJ k 60 i j v) :=
  zp_fP_trans x ⟨fun F _ _ _ => rfl, fun F a => ze_sJF _ _ _ _ a, fun a c hc => ⟨rfl, ze_gJn _ _ _ _ _ _ _ _ (fun e => hc e.2.1), rfl⟩, fun a b _ _ => Or.inl rfl⟩
theorem zp_fP_T {A : zd_A} {i : Nat} {h k l : zx_H} (x : zp_fP A i h k) (y : zp_fT i k l) : zp_fP A i h l :=
  zp_fP_trans x ⟨fun F _ a b => y.1 F a b, fun F _ => by rw [y.2.1], fun a j c => ⟨y.2.2.1 a j (fun e => c e.1), by rw [y.2.1], y.2.2.2 a j c⟩, fun a b _ _ => Or.inl (by rw [y.1 15 (by decide) (by decide)])⟩
theorem zp_fP_ft {A : zd_A} {i : Nat} {h k l : zx_H} (x : zp_fP A i h k) (y : zp_ft A k l) : zp_fP A i h l :=
  zp_fP_trans x ⟨fun F a _ _ => y.1 F a, fun F _ => by rw [y.2.1], fun a j c => ⟨by rw [y.1 60 (by decide)], by rw [y.2.1], by rw [y.1 61 (by decide)]⟩, y.2.2⟩
theorem zp_fP_k {A : zd_A} {i : Nat} {h k : zx_H} (x : zp_fP A i h k) : zd_kC h k := ⟨fun F hF => x.1 F (by omega) (by omega) (by omega), x.1 16 (by decide) (by decide) (by decide), fun a j _ => by rw [x.1 53 (by decide) (by decide) (by decide)], fun a j _ => by rw [x.1 54 (by decide) (by decide) (by decide)], x.1 55 (by decide) (by decide) (by decide), x.1 56 (by decide) (by decide) (by decide), x.2.1 57 (by decide), x.2.1 10 (by decide)⟩
theorem zp_fP_N {A : zd_A} {i : Nat} {h k : zx_H} (x : zp_fP A i h k) (N : zp_N A h) : zp_N A k := fun f hf => by rw [x.1 53 (by decide) (by decide) (by decide)]; exact N f hf
theorem zp_ch_fP {A : zd_A} (K : zd_ok A) {i : Nat} {h k : zx_H} (x : zp_fP A i h k) : ∀ n a b, a < zd_T A → b < zd_T A → zp_ch A h n a b → zp_ch A k n a b := by
  intro n
  induction n with
  | zero => exact fun _ _ _ _ _ => trivial
  | succ n ih =>
    intro a b ha hb c
    refine ⟨?_, fun h4 => ?_⟩
    · rcases x.2.2.2 a b ha hb with e | e
      · rw [e]; exact c.1
      · exact e
    · obtain ⟨l1, l2⟩ := zp_one4 h4
      have o1 := zd_ok_of K a ha l1
      have o2 := zd_ok_of K b hb l2
      exact ih _ _ (by omega) (by omega) (c.2 h4)
theorem zp_hw_rng {A : zd_A} (K : zd_ok A) (a b : Nat) : zp_hw A a b ≤ 4 ∨ 100 ≤ zp_hw A a b ∧ zp_hw A a b < 100 + zd_F A ∨ 200 ≤ zp_hw A a b ∧ zp_hw A a b < 200 + zd_M A ∨ 300 ≤ zp_hw A a b ∧ zp_hw A a b < 300 + zd_F A := by
  rcases zp_how_or A 40 a b with e | e
  · unfold zp_hw; omega
  · unfold zp_hw; rw [e]; exact zp_one_rng K a b
theorem zp_faultOf {A : zd_A} (K : zd_ok A) (h : zx_H) (a b : Nat) : zs_Planner_faultOf (zp_cw (zp_hw A a b)) h = some (nI (zp_ww (zp_hw A a b))) := by
  have r := zp_hw_rng K a b
  unfold zp_ww
  by_cases h0 : zp_hw A a b = 0
  · rw [if_pos h0, h0, zp_cw0]
    simp (disch := omega) only [zs_Planner_faultOf, ↓zd_bnd, ↓zy_bm, if_true, if_false, ite_true, ite_false, ↓reduceIte, Bool.false_eq_true, Bool.true_eq_false, eq_self, true_and, and_true, false_and, and_false, reduceCtorEq, decide_true, decide_false, not_true_eq_false, not_false_eq_true, ze_ltT, ze_ltF, ze_leT, ze_leF, ze_eqT, ze_eqF, ze_mlt, ze_ltm, ze_mle, ze_lem, ze_meq, ze_eqm, ze_mm, ze_mltm, ze_inT, ze_inF, ze_inM, ze_cl, ze_fin, ze_decT, ze_decF, Nat.reduceSub, Nat.reduceMul, nI_add, Nat.add_sub_cancel, Nat.add_assoc, Nat.reduceAdd, ze_r8, ze_r24, ze_r40, ze_r400, ze_l8, ze_l16, ze_l24, ze_l40, ze_sub, ze_am1, ze_es, ze_en, ze_i64, ze_m64, ze_64i, ze_64m, ze_LltT, ze_LltF, ze_LleT, ze_LleF, ze_LeqT, ze_LeqF, ze_Lmlt, ze_Lltm, ze_Lmle, ze_Llem, ze_Lmeq, ze_Leqm, ze_Lmm, lN_add, ze_ch, ze_chd, ze_bt, ze_bf, ze_n0, ze_n1, ze_n2, ze_n3, ze_n4, ze_n5, ze_n6, ze_n7, ze_n8, ze_n9, ze_n10, ze_n11, ze_n12, ze_n13, ze_n14, ze_n15, ze_n16, ze_n17, ze_n18, ze_n19, ze_n20, ze_n21, ze_n22, ze_n23, ze_n24, ze_n25, ze_n26, ze_n27, ze_n28, ze_n29, ze_n30, ze_n31, ze_n32, ze_n33, ze_n34, ze_n35, ze_n36, ze_n37, ze_n38, ze_n39, ze_n40, ze_n48, ze_n63, ze_n64, ze_n65, ze_n80, ze_n100, ze_n128, ze_n200, ze_n255, ze_n300, ze_n320, ze_n384, ze_n400, ze_n512, ze_n1023, ze_n1600, ze_n6400, ze_n9600, ze_n32768, ze_n65535, ze_n65536, ze_n802, ze_n8191, ze_L0, ze_L1, ze_L2, ze_L3, ze_L4, ze_L5, ze_L6, ze_L7, ze_L8, ze_L9, ze_L10, ze_L15, ze_L16, ze_L24, ze_L40, ze_L48, ze_L63, ze_L64, ze_L127, ze_L255, ze_L400, ze_L1024, ze_L2047, ze_L65535]
  · rw [if_neg h0]
    by_cases h1 : zp_hw A a b = 1
    · rw [if_pos h1, h1, zp_cw1]
      simp (disch := omega) only [zs_Planner_faultOf, ze_m2m1, ↓zd_bnd, ↓zy_bm, if_true, if_false, ite_true, ite_false, ↓reduceIte, Bool.false_eq_true, Bool.true_eq_false, eq_self, true_and, and_true, false_and, and_false, reduceCtorEq, decide_true, decide_false, not_true_eq_false, not_false_eq_true, ze_ltT, ze_ltF, ze_leT, ze_leF, ze_eqT, ze_eqF, ze_mlt, ze_ltm, ze_mle, ze_lem, ze_meq, ze_eqm, ze_mm, ze_mltm, ze_inT, ze_inF, ze_inM, ze_cl, ze_fin, ze_decT, ze_decF, Nat.reduceSub, Nat.reduceMul, nI_add, Nat.add_sub_cancel, Nat.add_assoc, Nat.reduceAdd, ze_r8, ze_r24, ze_r40, ze_r400, ze_l8, ze_l16, ze_l24, ze_l40, ze_sub, ze_am1, ze_es, ze_en, ze_i64, ze_m64, ze_64i, ze_64m, ze_LltT, ze_LltF, ze_LleT, ze_LleF, ze_LeqT, ze_LeqF, ze_Lmlt, ze_Lltm, ze_Lmle, ze_Llem, ze_Lmeq, ze_Leqm, ze_Lmm, lN_add, ze_ch, ze_chd, ze_bt, ze_bf, ze_n0, ze_n1, ze_n2, ze_n3, ze_n4, ze_n5, ze_n6, ze_n7, ze_n8, ze_n9, ze_n10, ze_n11, ze_n12, ze_n13, ze_n14, ze_n15, ze_n16, ze_n17, ze_n18, ze_n19, ze_n20, ze_n21, ze_n22, ze_n23, ze_n24, ze_n25, ze_n26, ze_n27, ze_n28, ze_n29, ze_n30, ze_n31, ze_n32, ze_n33, ze_n34, ze_n35, ze_n36, ze_n37, ze_n38, ze_n39, ze_n40, ze_n48, ze_n63, ze_n64, ze_n65, ze_n80, ze_n100, ze_n128, ze_n200, ze_n255, ze_n300, ze_n320, ze_n384, ze_n400, ze_n512, ze_n1023, ze_n1600, ze_n6400, ze_n9600, ze_n32768, ze_n65535, ze_n65536, ze_n802, ze_n8191, ze_L0, ze_L1, ze_L2, ze_L3, ze_L4, ze_L5, ze_L6, ze_L7, ze_L8, ze_L9, ze_L10, ze_L15, ze_L16, ze_L24, ze_L40, ze_L48, ze_L63, ze_L64, ze_L127, ze_L255, ze_L400, ze_L1024, ze_L2047, ze_L65535]
    · rw [if_neg h1]
      have n1 := zp_cwne K r h0
      have n2 : (zp_cw (zp_hw A a b) = -nI 2) = False := eq_false (fun e => by
        have g := zp_cw_ge K r (by omega)
        rw [e] at g
        exact absurd (of_eq_true g) (by decide))
      simp (disch := omega) only [zs_Planner_faultOf, n1, n2, ↓zd_bnd, ↓zy_bm, if_true, if_false, ite_true, ite_false, ↓reduceIte, Bool.false_eq_true, Bool.true_eq_false, eq_self, true_and, and_true, false_and, and_false, reduceCtorEq, decide_true, decide_false, not_true_eq_false, not_false_eq_true, ze_ltT, ze_ltF, ze_leT, ze_leF, ze_eqT, ze_eqF, ze_mlt, ze_ltm, ze_mle, ze_lem, ze_meq, ze_eqm, ze_mm, ze_mltm, ze_inT, ze_inF, ze_inM, ze_cl, ze_fin, ze_decT, ze_decF, Nat.reduceSub, Nat.reduceMul, nI_add, Nat.add_sub_cancel, Nat.add_assoc, Nat.reduceAdd, ze_r8, ze_r24, ze_r40, ze_r400, ze_l8, ze_l16, ze_l24, ze_l40, ze_sub, ze_am1, ze_es, ze_en, ze_i64, ze_m64, ze_64i, ze_64m, ze_LltT, ze_LltF, ze_LleT, ze_LleF, ze_LeqT, ze_LeqF, ze_Lmlt, ze_Lltm, ze_Lmle, ze_Llem, ze_Lmeq, ze_Leqm, ze_Lmm, lN_add, ze_ch, ze_chd, ze_bt, ze_bf, ze_n0, ze_n1, ze_n2, ze_n3, ze_n4, ze_n5, ze_n6, ze_n7, ze_n8, ze_n9, ze_n10, ze_n11, ze_n12, ze_n13, ze_n14, ze_n15, ze_n16, ze_n17, ze_n18, ze_n19, ze_n20, ze_n21, ze_n22, ze_n23, ze_n24, ze_n25, ze_n26, ze_n27, ze_n28, ze_n29, ze_n30, ze_n31, ze_n32, ze_n33, ze_n34, ze_n35, ze_n36, ze_n37, ze_n38, ze_n39, ze_n40, ze_n48, ze_n63, ze_n64, ze_n65, ze_n80, ze_n100, ze_n128, ze_n200, ze_n255, ze_n300, ze_n320, ze_n384, ze_n400, ze_n512, ze_n1023, ze_n1600, ze_n6400, ze_n9600, ze_n32768, ze_n65535, ze_n65536, ze_n802, ze_n8191, ze_L0, ze_L1, ze_L2, ze_L3, ze_L4, ze_L5, ze_L6, ze_L7, ze_L8, ze_L9, ze_L10, ze_L15, ze_L16, ze_L24, ze_L40, ze_L48, ze_L63, ze_L64, ze_L127, ze_L255, ze_L400, ze_L1024, ze_L2047, ze_L65535]
theorem zp_ww0 {w : Nat} (h : zp_ww w = 0) : 2 ≤ w := by
  unfold zp_ww at h
  by_cases h0 : w = 0
  · rw [if_pos h0] at h; omega
  · rw [if_neg h0] at h
    by_cases h1 : w = 1
    · rw [if_pos h1] at h; omega
    · omega
/-- the row of a plan, but for its default -/
def zp_row (A : zd_A) (k : zx_H) (m p : Nat) : Prop :=
  ((zp_fr A m 2 (nI (zp_n A m p))).isSome = true → k.1 60 (8 * m + p) 0 = nI 2) ∧
  ((zp_fr A m 2 (nI (zp_n A m p))).isSome = false → ∀ r, zp_fr A m 1 (nI (zp_n A m p)) = some r → k.1 60 (8 * m + p) 0 = nI 1 ∧ k.2 60 (8 * m + p) 1 = zd_wh A m r ∧ k.1 60 (8 * m + p) 5 = zp_cw (zp_hw A 4 (zp_y A m p)) ∧ 2 ≤ zp_hw A 4 (zp_y A m p)) ∧
  ((zp_fr A m 2 (nI (zp_n A m p))).isSome = false → zp_fr A m 1 (nI (zp_n A m p)) = none → ∃ w e, zp_src A m (zp_n A m p) = some w ∧ zp_end A (zd_mf A m) w = some e ∧ k.1 60 (8 * m + p) 0 = nI 0 ∧ k.1 60 (8 * m + p) 2 = nI (zp_st w) ∧ k.1 60 (8 * m + p) 4 = nI e ∧ (∀ q, q < zp_st w → k.1 61 (8 * m + p) q = nI (zp_pk A (zd_mf A m) w q)) ∧
    (zp_fr A m 4 (nI (zp_n A m p)) = none → k.1 60 (8 * m + p) 5 = zp_cw (zp_hw A e (zp_y A m p)) ∧ 2 ≤ zp_hw A e (zp_y A m p) ∧ zp_ch A k 41 e (zp_y A m p)) ∧
    (∀ r, zp_fr A m 4 (nI (zp_n A m p)) = some r → ∃ f, zp_fn A (zd_wh A m r) = some f ∧ zd_ff A f = e ∧ zd_ft A f = zp_y A m p ∧ k.1 60 (8 * m + p) 5 = nI (16 + f)))
/-- its default -/
def zp_rowd (A : zd_A) (k : zx_H) (m p : Nat) : Prop :=
  (zp_fr A m 2 (nI (zp_n A m p))).isSome = false → zp_fr A m 1 (nI (zp_n A m p)) = none → (zp_fr A m 3 (nI (zp_n A m p)) = none → k.1 60 (8 * m + p) 6 = nI 0) ∧ (∀ r, zp_fr A m 3 (nI (zp_n A m p)) = some r → k.1 60 (8 * m + p) 6 = nI 1 ∧ k.2 60 (8 * m + p) 7 = zd_wh A m r ∧ k.1 60 (8 * m + p) 8 = zp_cw (zp_hw A 4 (zp_y A m p)) ∧ 2 ≤ zp_hw A 4 (zp_y A m p))
theorem zp_end_lt {A : zd_A} (K : zd_ok A) {t e : Nat} (ht : t < zd_T A) {w : Int64} (h : zp_end A t w = some e) : e < zd_T A := by
  unfold zp_end at h
  by_cases c0 : zp_st w = 0
  · rw [if_pos c0] at h; cases h
  · rw [if_neg c0] at h
    exact zp_tt_lt K ht h
theorem zp_fn_some {A : zd_A} {x : Int64} {f : Nat} (h : zp_fn A x = some f) : f < zd_F A ∧ x = lN f := by
  obtain ⟨h1, h2, h3⟩ := zd_first_some.mp h
  exact ⟨h1, of_decide_eq_true h2⟩
theorem zp_C_planProperty {A : zd_A} {h : zx_H} (H : zd_C A h) (K : zd_ok A) (N : zp_N A h) {m p : Nat} (hm : m < zd_M A) (hm16 : m < 16) (hp : p < zd_sz A (zd_mt A m)) (hs : zd_srt A (zd_mt A m) = 4) (hi : h.1 54 m 6 = zp_ivx A m) : ∃ k, zs_Planner_planProperty ⟨m, hm16⟩ (nI p) h = some (nI (zp_w1 A m p), k) ∧ zp_fP A (8 * m + p) h k ∧ (zp_w1 A m p = 0 → zp_row A k m p) := by
  have hT := zd_ok_T K
  have hme := zd_ok_m K m hm
  have hz := zd_ok_sz K (zd_mt A m) (by omega)
  have hnm := zd_ok_nm K (zd_mt A m) p hme.2.1 hp
  have hpt := zd_ok_pt K (zd_mt A m) p hme.2.1 hp hs
  have hr24 := zd_ok_rc K m hm16
  have hF := zd_ok_F K
  have en : zp_n A m p = zd_nm A (zd_mt A m) p := rfl
  have ey : zp_y A m p = zd_pt A (zd_mt A m) p := rfl
  unfold zp_w1
  cases f2 : zp_fr A m 2 (nI (zp_n A m p)) with
  | some r =>
    have hr := (zp_fr_lt f2).1
    rw [if_pos (by rfl)]
    have f2' := f2
    rw [en] at f2'
    refine ⟨zx_sI h 60 (8 * m + p) 0 (nI 2), ?_, zp_fP_I (zp_fP_refl A _ h) 0 _, fun _ => ⟨fun _ => ze_gIs _ _ _ _ _, fun z => ?_, fun z => ?_⟩⟩
    · simp (disch := omega) only [zs_Planner_planProperty, zp_ppe, zd_C_mt H, zf_C_nameAt H K, zf_C_typeAt H K, zp_C_first H K hm, hs, f2', ↓zd_bnd, ↓zy_bm, if_true, if_false, ite_true, ite_false, ↓reduceIte, Bool.false_eq_true, Bool.true_eq_false, eq_self, true_and, and_true, false_and, and_false, reduceCtorEq, decide_true, decide_false, not_true_eq_false, not_false_eq_true, ze_ltT, ze_ltF, ze_leT, ze_leF, ze_eqT, ze_eqF, ze_mlt, ze_ltm, ze_mle, ze_lem, ze_meq, ze_eqm, ze_mm, ze_mltm, ze_inT, ze_inF, ze_inM, ze_cl, ze_fin, ze_decT, ze_decF, Nat.reduceSub, Nat.reduceMul, nI_add, Nat.add_sub_cancel, Nat.add_assoc, Nat.reduceAdd, ze_r8, ze_r24, ze_r40, ze_r400, ze_l8, ze_l16, ze_l24, ze_l40, ze_sub, ze_am1, ze_es, ze_en, ze_i64, ze_m64, ze_64i, ze_64m, ze_LltT, ze_LltF, ze_LleT, ze_LleF, ze_LeqT, ze_LeqF, ze_Lmlt, ze_Lltm, ze_Lmle, ze_Llem, ze_Lmeq, ze_Leqm, ze_Lmm, lN_add, ze_ch, ze_chd, ze_bt, ze_bf, ze_n0, ze_n1, ze_n2, ze_n3, ze_n4, ze_n5, ze_n6, ze_n7, ze_n8, ze_n9, ze_n10, ze_n11, ze_n12, ze_n13, ze_n14, ze_n15, ze_n16, ze_n17, ze_n18, ze_n19, ze_n20, ze_n21, ze_n22, ze_n23, ze_n24, ze_n25, ze_n26, ze_n27, ze_n28, ze_n29, ze_n30, ze_n31, ze_n32, ze_n33, ze_n34, ze_n35, ze_n36, ze_n37, ze_n38, ze_n39, ze_n40, ze_n48, ze_n63, ze_n64, ze_n65, ze_n80, ze_n100, ze_n128, ze_n200, ze_n255, ze_n300, ze_n320, ze_n384, ze_n400, ze_n512, ze_n1023, ze_n1600, ze_n6400, ze_n9600, ze_n32768, ze_n65535, ze_n65536, ze_n802, ze_n8191, ze_L0, ze_L1, ze_L2, ze_L3, ze_L4, ze_L5, ze_L6, ze_L7, ze_L8, ze_L9, ze_L10, ze_L15, ze_L16, ze_L24, ze_L40, ze_L48, ze_L63, ze_L64, ze_L127, ze_L255, ze_L400, ze_L1024, ze_L2047, ze_L65535]
    · rw [f2] at z; cases z
    · rw [f2] at z; cases z
  | none =>
    rw [if_neg (by decide)]
    have f2' := f2
    rw [en] at f2'
    cases f1 : zp_fr A m 1 (nI (zp_n A m p)) with
    | some r =>
      have hr := (zp_fr_lt f1).1
      rw [if_pos (by rfl)]
      have f1' := f1
      rw [en] at f1'
      have x1 : zp_fP A (8 * m + p) h (zx_sJ (zx_sI h 60 (8 * m + p) 0 (nI 1)) 60 (8 * m + p) 1 (zd_wh A m r)) := zp_fP_J (zp_fP_I (zp_fP_refl A _ h) 0 _) 1 _
      have H1 := zd_C_k (zp_fP_k x1) H
      obtain ⟨s, t1, t2, t3⟩ := zp_C_find H1 K (zp_fP_N x1 N) (a := 4) (b := zd_pt A (zd_mt A m) p) (by omega) hpt
      have fo := zp_faultOf K (zx_sI s 60 (8 * m + p) 5 (zp_cw (zp_hw A 4 (zd_pt A (zd_mt A m) p)))) 4 (zd_pt A (zd_mt A m) p)
      refine ⟨zx_sI s 60 (8 * m + p) 5 (zp_cw (zp_hw A 4 (zd_pt A (zd_mt A m) p))), ?_, zp_fP_I (zp_fP_ft x1 t2) 5 _, fun z => ⟨fun z => ?_, fun _ q hq => ?_, fun _ z => ?_⟩⟩
      · simp (disch := omega) only [zs_Planner_planProperty, zp_ppe, zd_C_mt H, zd_C_wh H, zf_C_nameAt H K, zf_C_typeAt H K, zp_C_first H K hm, hs, f1', f2', t1, fo, ey, ↓zd_bnd, ↓zy_bm, if_true, if_false, ite_true, ite_false, ↓reduceIte, Bool.false_eq_true, Bool.true_eq_false, eq_self, true_and, and_true, false_and, and_false, reduceCtorEq, decide_true, decide_false, not_true_eq_false, not_false_eq_true, ze_ltT, ze_ltF, ze_leT, ze_leF, ze_eqT, ze_eqF, ze_mlt, ze_ltm, ze_mle, ze_lem, ze_meq, ze_eqm, ze_mm, ze_mltm, ze_inT, ze_inF, ze_inM, ze_cl, ze_fin, ze_decT, ze_decF, Nat.reduceSub, Nat.reduceMul, nI_add, Nat.add_sub_cancel, Nat.add_assoc, Nat.reduceAdd, ze_r8, ze_r24, ze_r40, ze_r400, ze_l8, ze_l16, ze_l24, ze_l40, ze_sub, ze_am1, ze_es, ze_en, ze_i64, ze_m64, ze_64i, ze_64m, ze_LltT, ze_LltF, ze_LleT, ze_LleF, ze_LeqT, ze_LeqF, ze_Lmlt, ze_Lltm, ze_Lmle, ze_Llem, ze_Lmeq, ze_Leqm, ze_Lmm, lN_add, ze_ch, ze_chd, ze_bt, ze_bf, ze_n0, ze_n1, ze_n2, ze_n3, ze_n4, ze_n5, ze_n6, ze_n7, ze_n8, ze_n9, ze_n10, ze_n11, ze_n12, ze_n13, ze_n14, ze_n15, ze_n16, ze_n17, ze_n18, ze_n19, ze_n20, ze_n21, ze_n22, ze_n23, ze_n24, ze_n25, ze_n26, ze_n27, ze_n28, ze_n29, ze_n30, ze_n31, ze_n32, ze_n33, ze_n34, ze_n35, ze_n36, ze_n37, ze_n38, ze_n39, ze_n40, ze_n48, ze_n63, ze_n64, ze_n65, ze_n80, ze_n100, ze_n128, ze_n200, ze_n255, ze_n300, ze_n320, ze_n384, ze_n400, ze_n512, ze_n1023, ze_n1600, ze_n6400, ze_n9600, ze_n32768, ze_n65535, ze_n65536, ze_n802, ze_n8191, ze_L0, ze_L1, ze_L2, ze_L3, ze_L4, ze_L5, ze_L6, ze_L7, ze_L8, ze_L9, ze_L10, ze_L15, ze_L16, ze_L24, ze_L40, ze_L48, ze_L63, ze_L64, ze_L127, ze_L255, ze_L400, ze_L1024, ze_L2047, ze_L65535, ze_gIs, ze_gIn, ze_gJs, ze_gJn, zd_gI2, zd_gJ1, ze_sII]
      · rw [f2] at z; cases z
      · rw [f1] at hq
        cases hq
        refine ⟨?_, ?_, ze_gIs _ _ _ _ _, zp_ww0 z⟩
        · rw [ze_gIn _ _ _ _ _ _ _ _ (by omega), t2.1 60 (by decide)]
          exact ze_gIs _ _ _ _ _
        · show s.2 60 (8 * m + p) 1 = _
          rw [t2.2.1]
          exact ze_gJs _ _ _ _ _
      · rw [f1] at z; cases z
    | none =>
      rw [if_neg (by decide)]
      have f1' := f1
      rw [en] at f1'
      have x1 : zp_fP A (8 * m + p) h (zx_sI h 60 (8 * m + p) 0 (nI 0)) := zp_fP_I (zp_fP_refl A _ h) 0 _
      have H1 := zd_C_k (zp_fP_k x1) H
      have pt := zp_C_pathTo H1 K (n := zd_nm A (zd_mt A m) p) hm hm16 hnm (by rw [ze_gIn _ _ _ _ _ _ _ _ (by omega)]; exact hi)
      unfold zp_wc
      rw [en, ey]
      obtain ⟨b, s, t1, t2, t3⟩ := zp_C_trace H1 K (i := 8 * m + p) (by omega) hme.1 (zp_or (zp_src A m (zd_nm A (zd_mt A m) p)) (lN (zd_nm A (zd_mt A m) p + 1)))
      have bad : zp_end A (zd_mf A m) (zp_or (zp_src A m (zd_nm A (zd_mt A m) p)) (lN (zd_nm A (zd_mt A m) p + 1))) = none → ∃ k, zs_Planner_planProperty ⟨m, hm16⟩ (nI p) h = some (nI 5, k) ∧ zp_fP A (8 * m + p) h k := fun z => by
        rw [z] at t3
        have t3 : b = false := t3
        rw [t3] at t1
        refine ⟨s, ?_, zp_fP_T x1 t2⟩
        simp (disch := omega) only [zs_Planner_planProperty, zp_ppe, zd_C_mt H, zd_C_mf H, zf_C_nameAt H K, zf_C_typeAt H K, zp_C_first H K hm, hs, f1', f2', pt, t1, ↓zd_bnd, ↓zy_bm, if_true, if_false, ite_true, ite_false, ↓reduceIte, Bool.false_eq_true, Bool.true_eq_false, eq_self, true_and, and_true, false_and, and_false, reduceCtorEq, decide_true, decide_false, not_true_eq_false, not_false_eq_true, ze_ltT, ze_ltF, ze_leT, ze_leF, ze_eqT, ze_eqF, ze_mlt, ze_ltm, ze_mle, ze_lem, ze_meq, ze_eqm, ze_mm, ze_mltm, ze_inT, ze_inF, ze_inM, ze_cl, ze_fin, ze_decT, ze_decF, Nat.reduceSub, Nat.reduceMul, nI_add, Nat.add_sub_cancel, Nat.add_assoc, Nat.reduceAdd, ze_r8, ze_r24, ze_r40, ze_r400, ze_l8, ze_l16, ze_l24, ze_l40, ze_sub, ze_am1, ze_es, ze_en, ze_i64, ze_m64, ze_64i, ze_64m, ze_LltT, ze_LltF, ze_LleT, ze_LleF, ze_LeqT, ze_LeqF, ze_Lmlt, ze_Lltm, ze_Lmle, ze_Llem, ze_Lmeq, ze_Leqm, ze_Lmm, lN_add, ze_ch, ze_chd, ze_bt, ze_bf, ze_n0, ze_n1, ze_n2, ze_n3, ze_n4, ze_n5, ze_n6, ze_n7, ze_n8, ze_n9, ze_n10, ze_n11, ze_n12, ze_n13, ze_n14, ze_n15, ze_n16, ze_n17, ze_n18, ze_n19, ze_n20, ze_n21, ze_n22, ze_n23, ze_n24, ze_n25, ze_n26, ze_n27, ze_n28, ze_n29, ze_n30, ze_n31, ze_n32, ze_n33, ze_n34, ze_n35, ze_n36, ze_n37, ze_n38, ze_n39, ze_n40, ze_n48, ze_n63, ze_n64, ze_n65, ze_n80, ze_n100, ze_n128, ze_n200, ze_n255, ze_n300, ze_n320, ze_n384, ze_n400, ze_n512, ze_n1023, ze_n1600, ze_n6400, ze_n9600, ze_n32768, ze_n65535, ze_n65536, ze_n802, ze_n8191, ze_L0, ze_L1, ze_L2, ze_L3, ze_L4, ze_L5, ze_L6, ze_L7, ze_L8, ze_L9, ze_L10, ze_L15, ze_L16, ze_L24, ze_L40, ze_L48, ze_L63, ze_L64, ze_L127, ze_L255, ze_L400, ze_L1024, ze_L2047, ze_L65535, ze_gIs, ze_gIn, ze_gJs, ze_gJn, zd_gI2, zd_gJ1, ze_sII]
      cases es : zp_src A m (zd_nm A (zd_mt A m) p) with
      | none =>
        obtain ⟨k, b1, b2⟩ := bad (by
          rw [es]
          show zp_end A (zd_mf A m) (lN (zd_nm A (zd_mt A m) p + 1)) = none
          rw [zp_end1 A _ hnm]
          have e0 : zd_pl A (zd_mf A m) (nI (zd_nm A (zd_mt A m) p)) = none := by
            unfold zp_src at es
            have by0 : zp_by A m (zd_nm A (zd_mt A m) p) = none → zd_pl A (zd_mf A m) (nI (zd_nm A (zd_mt A m) p)) = none := fun z => by
              unfold zp_by at z
              cases e : zd_pl A (zd_mf A m) (nI (zd_nm A (zd_mt A m) p)) with
              | none => rfl
              | some q => rw [e] at z; cases z
            cases e0 : zp_fr A m 0 (nI (zd_nm A (zd_mt A m) p)) with
            | some r => rw [e0] at es; cases es
            | none =>
              rw [e0] at es
              cases ei : zp_iv A m with
              | none => rw [ei] at es; exact by0 es
              | some io =>
                cases io with
                | none => rw [ei] at es; exact by0 es
                | some o =>
                  rw [ei] at es
                  have es : zp_inv A m (zd_nm A (zd_mt A m) p) o = none := es
                  unfold zp_inv at es
                  cases e3 : zd_first (zp_ic A o (zd_nm A (zd_mt A m) p)) (zd_rc A o) with
                  | none => rw [e3] at es; exact by0 es
                  | some r =>
                    rw [e3] at es
                    have es : (match zd_pl A (zd_mf A m) (zd_tg A o r) with | none => zp_by A m (zd_nm A (zd_mt A m) p) | some q => some (lN (zd_nm A (zd_mf A m) q + 1))) = none := es
                    cases e4 : zd_pl A (zd_mf A m) (zd_tg A o r) with
                    | none => rw [e4] at es; exact by0 es
                    | some q => rw [e4] at es; cases es
          rw [e0]
          by_cases c : zd_srt A (zd_mf A m) = 4
          · rw [if_pos c]
          · rw [if_neg c])
        exact ⟨k, b1, b2, fun z => absurd (show (5 : Nat) = 0 from z) (by decide)⟩
      | some w =>
        rw [es] at t1 t3 bad pt
        have t1 : zs_Plan_trace ⟨8 * m + p, by omega⟩ (nI (zd_mf A m)) w (zx_sI h 60 (8 * m + p) 0 (nI 0)) = some (b, s) := t1
        have pt : zs_Planner_pathTo ⟨m, hm16⟩ (nI (zd_nm A (zd_mt A m) p)) (zx_sI h 60 (8 * m + p) 0 (nI 0)) = some w := pt
        have t3 : (match zp_end A (zd_mf A m) w with | some e => b = true ∧ s.1 60 (8 * m + p) 2 = nI (zp_st w) ∧ s.1 60 (8 * m + p) 4 = nI e ∧ ∀ q, q < zp_st w → s.1 61 (8 * m + p) q = nI (zp_pk A (zd_mf A m) w q) | none => b = false) := t3
        cases ee : zp_end A (zd_mf A m) w with
        | none =>
          obtain ⟨k, b1, b2⟩ := bad ee
          show ∃ k, _ = some (nI (match zp_end A (zd_mf A m) w with | none => 5 | some e => _), k) ∧ _
          rw [ee]
          exact ⟨k, b1, b2, fun z => absurd z (by show ¬ ((match zp_end A (zd_mf A m) w with | none => 5 | some e => zp_wb A m (zd_nm A (zd_mt A m) p) e (zd_pt A (zd_mt A m) p)) = 0); rw [ee]; show ¬ (5 = 0); decide)⟩
        | some e =>
          rw [ee] at t3
          obtain ⟨t4, t5, t6, t7⟩ := t3
          rw [t4] at t1
          have he := zp_end_lt K hme.1 ee
          have x2 := zp_fP_T x1 t2
          have H2 := zd_C_k (zp_fP_k x2) H
          have N2 := zp_fP_N x2 N
          have o0 : s.1 60 (8 * m + p) 0 = nI 0 := by
            rw [t2.2.2.1 _ _ (by omega)]
            exact ze_gIs _ _ _ _ _
          show ∃ k, _ = some (nI (match zp_end A (zd_mf A m) w with | none => 5 | some e => zp_wb A m (zd_nm A (zd_mt A m) p) e (zd_pt A (zd_mt A m) p)), k) ∧ _ ∧ ((match zp_end A (zd_mf A m) w with | none => 5 | some e => zp_wb A m (zd_nm A (zd_mt A m) p) e (zd_pt A (zd_mt A m) p)) = 0 → _)
          rw [ee]
          show ∃ k, _ = some (nI (zp_wb A m (zd_nm A (zd_mt A m) p) e (zd_pt A (zd_mt A m) p)), k) ∧ _ ∧ (zp_wb A m (zd_nm A (zd_mt A m) p) e (zd_pt A (zd_mt A m) p) = 0 → _)
          unfold zp_wb
          cases f4 : zp_fr A m 4 (nI (zd_nm A (zd_mt A m) p)) with
          | none =>
            obtain ⟨s2, u1, u2, u3⟩ := zp_C_find H2 K N2 he hpt
            have fo := zp_faultOf K (zx_sI s2 60 (8 * m + p) 5 (zp_cw (zp_hw A e (zd_pt A (zd_mt A m) p)))) e (zd_pt A (zd_mt A m) p)
            refine ⟨zx_sI s2 60 (8 * m + p) 5 (zp_cw (zp_hw A e (zd_pt A (zd_mt A m) p))), ?_, zp_fP_I (zp_fP_ft x2 u2) 5 _, fun z => ⟨fun z => ?_, fun _ q hq => ?_, fun _ _ => ⟨w, e, es, ee, ?_, ?_, ?_, fun q hq => ?_, fun _ => ⟨ze_gIs _ _ _ _ _, zp_ww0 z, zp_ch_fP K (zp_fP_I (zp_fP_refl A (8 * m + p) s2) 5 _) _ _ _ he hpt u3⟩, fun r hr => ?_⟩⟩⟩
            · simp (disch := omega) only [zs_Planner_planProperty, zs_Planner_planProperty_J185, zp_ppe, zd_C_mt H, zd_C_mf H, zf_C_nameAt H K, zf_C_typeAt H K, zp_C_first H K hm, zp_C_first H2 K hm, hs, f1', f2', f4, pt, t1, t6, u1, fo, ↓zd_bnd, ↓zy_bm, if_true, if_false, ite_true, ite_false, ↓reduceIte, Bool.false_eq_true, Bool.true_eq_false, eq_self, true_and, and_true, false_and, and_false, reduceCtorEq, decide_true, decide_false, not_true_eq_false, not_false_eq_true, ze_ltT, ze_ltF, ze_leT, ze_leF, ze_eqT, ze_eqF, ze_mlt, ze_ltm, ze_mle, ze_lem, ze_meq, ze_eqm, ze_mm, ze_mltm, ze_inT, ze_inF, ze_inM, ze_cl, ze_fin, ze_decT, ze_decF, Nat.reduceSub, Nat.reduceMul, nI_add, Nat.add_sub_cancel, Nat.add_assoc, Nat.reduceAdd, ze_r8, ze_r24, ze_r40, ze_r400, ze_l8, ze_l16, ze_l24, ze_l40, ze_sub, ze_am1, ze_es, ze_en, ze_i64, ze_m64, ze_64i, ze_64m, ze_LltT, ze_LltF, ze_LleT, ze_LleF, ze_LeqT, ze_LeqF, ze_Lmlt, ze_Lltm, ze_Lmle, ze_Llem, ze_Lmeq, ze_Leqm, ze_Lmm, lN_add, ze_ch, ze_chd, ze_bt, ze_bf, ze_n0, ze_n1, ze_n2, ze_n3, ze_n4, ze_n5, ze_n6, ze_n7, ze_n8, ze_n9, ze_n10, ze_n11, ze_n12, ze_n13, ze_n14, ze_n15, ze_n16, ze_n17, ze_n18, ze_n19, ze_n20, ze_n21, ze_n22, ze_n23, ze_n24, ze_n25, ze_n26, ze_n27, ze_n28, ze_n29, ze_n30, ze_n31, ze_n32, ze_n33, ze_n34, ze_n35, ze_n36, ze_n37, ze_n38, ze_n39, ze_n40, ze_n48, ze_n63, ze_n64, ze_n65, ze_n80, ze_n100, ze_n128, ze_n200, ze_n255, ze_n300, ze_n320, ze_n384, ze_n400, ze_n512, ze_n1023, ze_n1600, ze_n6400, ze_n9600, ze_n32768, ze_n65535, ze_n65536, ze_n802, ze_n8191, ze_L0, ze_L1, ze_L2, ze_L3, ze_L4, ze_L5, ze_L6, ze_L7, ze_L8, ze_L9, ze_L10, ze_L15, ze_L16, ze_L24, ze_L40, ze_L48, ze_L63, ze_L64, ze_L127, ze_L255, ze_L400, ze_L1024, ze_L2047, ze_L65535, ze_gIs, ze_gIn, ze_gJs, ze_gJn, zd_gI2, zd_gJ1, ze_sII]
            · rw [f2] at z; cases z
            · rw [f1] at hq; cases hq
            · rw [ze_gIn _ _ _ _ _ _ _ _ (by omega), u2.1 60 (by decide)]; exact o0
            · rw [ze_gIn _ _ _ _ _ _ _ _ (by omega), u2.1 60 (by decide)]; exact t5
            · rw [ze_gIn _ _ _ _ _ _ _ _ (by omega), u2.1 60 (by decide)]; exact t6
            · rw [ze_gIn _ _ _ _ _ _ _ _ (by omega), u2.1 61 (by decide)]; exact t7 q hq
            · rw [en, f4] at hr; cases hr
          | some r =>
            have hr := (zp_fr_lt f4).1
            have w57 := zd_C_wh H2 m r hm hr
            have fin : ∀ (v : Int32) (wv : Nat), zs_Planner_wayBy (zd_wh A m r) (nI e) (nI (zd_pt A (zd_mt A m) p)) s = some v → (∀ k, zs_Planner_faultOf v k = some (nI wv)) → zs_Planner_planProperty ⟨m, hm16⟩ (nI p) h = some (nI wv, zx_sI s 60 (8 * m + p) 5 v) := fun v wv g1 g2 => by
              simp (disch := omega) only [zs_Planner_planProperty, zs_Planner_planProperty_J185, zp_ppe, zd_C_mt H, zd_C_mf H, zf_C_nameAt H K, zf_C_typeAt H K, zp_C_first H K hm, zp_C_first H2 K hm, hs, f1', f2', f4, pt, t1, t6, w57, g1, g2, ↓zd_bnd, ↓zy_bm, if_true, if_false, ite_true, ite_false, ↓reduceIte, Bool.false_eq_true, Bool.true_eq_false, eq_self, true_and, and_true, false_and, and_false, reduceCtorEq, decide_true, decide_false, not_true_eq_false, not_false_eq_true, ze_ltT, ze_ltF, ze_leT, ze_leF, ze_eqT, ze_eqF, ze_mlt, ze_ltm, ze_mle, ze_lem, ze_meq, ze_eqm, ze_mm, ze_mltm, ze_inT, ze_inF, ze_inM, ze_cl, ze_fin, ze_decT, ze_decF, Nat.reduceSub, Nat.reduceMul, nI_add, Nat.add_sub_cancel, Nat.add_assoc, Nat.reduceAdd, ze_r8, ze_r24, ze_r40, ze_r400, ze_l8, ze_l16, ze_l24, ze_l40, ze_sub, ze_am1, ze_es, ze_en, ze_i64, ze_m64, ze_64i, ze_64m, ze_LltT, ze_LltF, ze_LleT, ze_LleF, ze_LeqT, ze_LeqF, ze_Lmlt, ze_Lltm, ze_Lmle, ze_Llem, ze_Lmeq, ze_Leqm, ze_Lmm, lN_add, ze_ch, ze_chd, ze_bt, ze_bf, ze_n0, ze_n1, ze_n2, ze_n3, ze_n4, ze_n5, ze_n6, ze_n7, ze_n8, ze_n9, ze_n10, ze_n11, ze_n12, ze_n13, ze_n14, ze_n15, ze_n16, ze_n17, ze_n18, ze_n19, ze_n20, ze_n21, ze_n22, ze_n23, ze_n24, ze_n25, ze_n26, ze_n27, ze_n28, ze_n29, ze_n30, ze_n31, ze_n32, ze_n33, ze_n34, ze_n35, ze_n36, ze_n37, ze_n38, ze_n39, ze_n40, ze_n48, ze_n63, ze_n64, ze_n65, ze_n80, ze_n100, ze_n128, ze_n200, ze_n255, ze_n300, ze_n320, ze_n384, ze_n400, ze_n512, ze_n1023, ze_n1600, ze_n6400, ze_n9600, ze_n32768, ze_n65535, ze_n65536, ze_n802, ze_n8191, ze_L0, ze_L1, ze_L2, ze_L3, ze_L4, ze_L5, ze_L6, ze_L7, ze_L8, ze_L9, ze_L10, ze_L15, ze_L16, ze_L24, ze_L40, ze_L48, ze_L63, ze_L64, ze_L127, ze_L255, ze_L400, ze_L1024, ze_L2047, ze_L65535, ze_gIs, ze_gIn, ze_gJs, ze_gJn, zd_gI2, zd_gJ1, ze_sII]
            have fm1 : ∀ k, zs_Planner_faultOf (-nI 1) k = some (nI 6) := fun k => by simp (disch := omega) only [zs_Planner_faultOf, ↓zd_bnd, ↓zy_bm, if_true, if_false, ite_true, ite_false, ↓reduceIte, Bool.false_eq_true, Bool.true_eq_false, eq_self, true_and, and_true, false_and, and_false, reduceCtorEq, decide_true, decide_false, not_true_eq_false, not_false_eq_true, ze_ltT, ze_ltF, ze_leT, ze_leF, ze_eqT, ze_eqF, ze_mlt, ze_ltm, ze_mle, ze_lem, ze_meq, ze_eqm, ze_mm, ze_mltm, ze_inT, ze_inF, ze_inM, ze_cl, ze_fin, ze_decT, ze_decF, Nat.reduceSub, Nat.reduceMul, nI_add, Nat.add_sub_cancel, Nat.add_assoc, Nat.reduceAdd, ze_r8, ze_r24, ze_r40, ze_r400, ze_l8, ze_l16, ze_l24, ze_l40, ze_sub, ze_am1, ze_es, ze_en, ze_i64, ze_m64, ze_64i, ze_64m, ze_LltT, ze_LltF, ze_LleT, ze_LleF, ze_LeqT, ze_LeqF, ze_Lmlt, ze_Lltm, ze_Lmle, ze_Llem, ze_Lmeq, ze_Leqm, ze_Lmm, lN_add, ze_ch, ze_chd, ze_bt, ze_bf, ze_n0, ze_n1, ze_n2, ze_n3, ze_n4, ze_n5, ze_n6, ze_n7, ze_n8, ze_n9, ze_n10, ze_n11, ze_n12, ze_n13, ze_n14, ze_n15, ze_n16, ze_n17, ze_n18, ze_n19, ze_n20, ze_n21, ze_n22, ze_n23, ze_n24, ze_n25, ze_n26, ze_n27, ze_n28, ze_n29, ze_n30, ze_n31, ze_n32, ze_n33, ze_n34, ze_n35, ze_n36, ze_n37, ze_n38, ze_n39, ze_n40, ze_n48, ze_n63, ze_n64, ze_n65, ze_n80, ze_n100, ze_n128, ze_n200, ze_n255, ze_n300, ze_n320, ze_n384, ze_n400, ze_n512, ze_n1023, ze_n1600, ze_n6400, ze_n9600, ze_n32768, ze_n65535, ze_n65536, ze_n802, ze_n8191, ze_L0, ze_L1, ze_L2, ze_L3, ze_L4, ze_L5, ze_L6, ze_L7, ze_L8, ze_L9, ze_L10, ze_L15, ze_L16, ze_L24, ze_L40, ze_L48, ze_L63, ze_L64, ze_L127, ze_L255, ze_L400, ze_L1024, ze_L2047, ze_L65535]
            show ∃ k, _ = some (nI (match zp_fn A (zd_wh A m r) with | none => 6 | some f => if zd_ff A f = e ∧ zd_ft A f = zd_pt A (zd_mt A m) p then 0 else 6), k) ∧ _ ∧ ((match zp_fn A (zd_wh A m r) with | none => 6 | some f => if zd_ff A f = e ∧ zd_ft A f = zd_pt A (zd_mt A m) p then 0 else 6) = 0 → _)
            rcases zf_tyL (zd_wh A m r) (n := zd_F A) (by omega) with hw | ⟨f, hf, hw⟩
            · rw [zp_fn_out K hw]
              exact ⟨_, fin (-nI 1) 6 (by simp (disch := omega) only [zs_Planner_wayBy_J52, zs_Planner_wayBy, zf_C_hasFunctionO H2 K hw, ↓zd_bnd, ↓zy_bm, if_true, if_false, ite_true, ite_false, ↓reduceIte, Bool.false_eq_true, Bool.true_eq_false, eq_self, true_and, and_true, false_and, and_false, reduceCtorEq, decide_true, decide_false, not_true_eq_false, not_false_eq_true, ze_ltT, ze_ltF, ze_leT, ze_leF, ze_eqT, ze_eqF, ze_mlt, ze_ltm, ze_mle, ze_lem, ze_meq, ze_eqm, ze_mm, ze_mltm, ze_inT, ze_inF, ze_inM, ze_cl, ze_fin, ze_decT, ze_decF, Nat.reduceSub, Nat.reduceMul, nI_add, Nat.add_sub_cancel, Nat.add_assoc, Nat.reduceAdd, ze_r8, ze_r24, ze_r40, ze_r400, ze_l8, ze_l16, ze_l24, ze_l40, ze_sub, ze_am1, ze_es, ze_en, ze_i64, ze_m64, ze_64i, ze_64m, ze_LltT, ze_LltF, ze_LleT, ze_LleF, ze_LeqT, ze_LeqF, ze_Lmlt, ze_Lltm, ze_Lmle, ze_Llem, ze_Lmeq, ze_Leqm, ze_Lmm, lN_add, ze_ch, ze_chd, ze_bt, ze_bf, ze_n0, ze_n1, ze_n2, ze_n3, ze_n4, ze_n5, ze_n6, ze_n7, ze_n8, ze_n9, ze_n10, ze_n11, ze_n12, ze_n13, ze_n14, ze_n15, ze_n16, ze_n17, ze_n18, ze_n19, ze_n20, ze_n21, ze_n22, ze_n23, ze_n24, ze_n25, ze_n26, ze_n27, ze_n28, ze_n29, ze_n30, ze_n31, ze_n32, ze_n33, ze_n34, ze_n35, ze_n36, ze_n37, ze_n38, ze_n39, ze_n40, ze_n48, ze_n63, ze_n64, ze_n65, ze_n80, ze_n100, ze_n128, ze_n200, ze_n255, ze_n300, ze_n320, ze_n384, ze_n400, ze_n512, ze_n1023, ze_n1600, ze_n6400, ze_n9600, ze_n32768, ze_n65535, ze_n65536, ze_n802, ze_n8191, ze_L0, ze_L1, ze_L2, ze_L3, ze_L4, ze_L5, ze_L6, ze_L7, ze_L8, ze_L9, ze_L10, ze_L15, ze_L16, ze_L24, ze_L40, ze_L48, ze_L63, ze_L64, ze_L127, ze_L255, ze_L400, ze_L1024, ze_L2047, ze_L65535]) fm1, zp_fP_I x2 5 _, fun z => absurd (show (6 : Nat) = 0 from z) (by decide)⟩
            · have ef : zp_fn A (zd_wh A m r) = some f := by rw [hw]; exact zp_fn_at K hf
              rw [ef]
              have hff := zd_ok_ff K f hf
              have hft := zd_ok_ft K f hf
              by_cases c : zd_ff A f = e ∧ zd_ft A f = zd_pt A (zd_mt A m) p
              · show ∃ k, _ = some (nI (if zd_ff A f = e ∧ zd_ft A f = zd_pt A (zd_mt A m) p then 0 else 6), k) ∧ _ ∧ ((if zd_ff A f = e ∧ zd_ft A f = zd_pt A (zd_mt A m) p then 0 else 6) = 0 → _)
                rw [if_pos c]
                refine ⟨_, fin (nI (16 + f)) 0 (by simp (disch := omega) only [zs_Planner_wayBy_J52, zs_Planner_wayBy, zf_C_hasFunction H2 K, zd_C_ff H2, zd_C_ft H2, hw, c.1, c.2, ↓zd_bnd, ↓zy_bm, if_true, if_false, ite_true, ite_false, ↓reduceIte, Bool.false_eq_true, Bool.true_eq_false, eq_self, true_and, and_true, false_and, and_false, reduceCtorEq, decide_true, decide_false, not_true_eq_false, not_false_eq_true, ze_ltT, ze_ltF, ze_leT, ze_leF, ze_eqT, ze_eqF, ze_mlt, ze_ltm, ze_mle, ze_lem, ze_meq, ze_eqm, ze_mm, ze_mltm, ze_inT, ze_inF, ze_inM, ze_cl, ze_fin, ze_decT, ze_decF, Nat.reduceSub, Nat.reduceMul, nI_add, Nat.add_sub_cancel, Nat.add_assoc, Nat.reduceAdd, ze_r8, ze_r24, ze_r40, ze_r400, ze_l8, ze_l16, ze_l24, ze_l40, ze_sub, ze_am1, ze_es, ze_en, ze_i64, ze_m64, ze_64i, ze_64m, ze_LltT, ze_LltF, ze_LleT, ze_LleF, ze_LeqT, ze_LeqF, ze_Lmlt, ze_Lltm, ze_Lmle, ze_Llem, ze_Lmeq, ze_Leqm, ze_Lmm, lN_add, ze_ch, ze_chd, ze_bt, ze_bf, ze_n0, ze_n1, ze_n2, ze_n3, ze_n4, ze_n5, ze_n6, ze_n7, ze_n8, ze_n9, ze_n10, ze_n11, ze_n12, ze_n13, ze_n14, ze_n15, ze_n16, ze_n17, ze_n18, ze_n19, ze_n20, ze_n21, ze_n22, ze_n23, ze_n24, ze_n25, ze_n26, ze_n27, ze_n28, ze_n29, ze_n30, ze_n31, ze_n32, ze_n33, ze_n34, ze_n35, ze_n36, ze_n37, ze_n38, ze_n39, ze_n40, ze_n48, ze_n63, ze_n64, ze_n65, ze_n80, ze_n100, ze_n128, ze_n200, ze_n255, ze_n300, ze_n320, ze_n384, ze_n400, ze_n512, ze_n1023, ze_n1600, ze_n6400, ze_n9600, ze_n32768, ze_n65535, ze_n65536, ze_n802, ze_n8191, ze_L0, ze_L1, ze_L2, ze_L3, ze_L4, ze_L5, ze_L6, ze_L7, ze_L8, ze_L9, ze_L10, ze_L15, ze_L16, ze_L24, ze_L40, ze_L48, ze_L63, ze_L64, ze_L127, ze_L255, ze_L400, ze_L1024, ze_L2047, ze_L65535]) (fun k => by
                  have h2 : (nI (16 + f) = -nI 2) = False := eq_false (fun z => absurd (of_eq_true (ze_m2e (n := 16 + f) (by omega)  ▸ eq_true z.symm)) (fun z => z))
                  simp (disch := omega) only [zs_Planner_faultOf, h2, ↓zd_bnd, ↓zy_bm, if_true, if_false, ite_true, ite_false, ↓reduceIte, Bool.false_eq_true, Bool.true_eq_false, eq_self, true_and, and_true, false_and, and_false, reduceCtorEq, decide_true, decide_false, not_true_eq_false, not_false_eq_true, ze_ltT, ze_ltF, ze_leT, ze_leF, ze_eqT, ze_eqF, ze_mlt, ze_ltm, ze_mle, ze_lem, ze_meq, ze_eqm, ze_mm, ze_mltm, ze_inT, ze_inF, ze_inM, ze_cl, ze_fin, ze_decT, ze_decF, Nat.reduceSub, Nat.reduceMul, nI_add, Nat.add_sub_cancel, Nat.add_assoc, Nat.reduceAdd, ze_r8, ze_r24, ze_r40, ze_r400, ze_l8, ze_l16, ze_l24, ze_l40, ze_sub, ze_am1, ze_es, ze_en, ze_i64, ze_m64, ze_64i, ze_64m, ze_LltT, ze_LltF, ze_LleT, ze_LleF, ze_LeqT, ze_LeqF, ze_Lmlt, ze_Lltm, ze_Lmle, ze_Llem, ze_Lmeq, ze_Leqm, ze_Lmm, lN_add, ze_ch, ze_chd, ze_bt, ze_bf, ze_n0, ze_n1, ze_n2, ze_n3, ze_n4, ze_n5, ze_n6, ze_n7, ze_n8, ze_n9, ze_n10, ze_n11, ze_n12, ze_n13, ze_n14, ze_n15, ze_n16, ze_n17, ze_n18, ze_n19, ze_n20, ze_n21, ze_n22, ze_n23, ze_n24, ze_n25, ze_n26, ze_n27, ze_n28, ze_n29, ze_n30, ze_n31, ze_n32, ze_n33, ze_n34, ze_n35, ze_n36, ze_n37, ze_n38, ze_n39, ze_n40, ze_n48, ze_n63, ze_n64, ze_n65, ze_n80, ze_n100, ze_n128, ze_n200, ze_n255, ze_n300, ze_n320, ze_n384, ze_n400, ze_n512, ze_n1023, ze_n1600, ze_n6400, ze_n9600, ze_n32768, ze_n65535, ze_n65536, ze_n802, ze_n8191, ze_L0, ze_L1, ze_L2, ze_L3, ze_L4, ze_L5, ze_L6, ze_L7, ze_L8, ze_L9, ze_L10, ze_L15, ze_L16, ze_L24, ze_L40, ze_L48, ze_L63, ze_L64, ze_L127, ze_L255, ze_L400, ze_L1024, ze_L2047, ze_L65535]), zp_fP_I x2 5 _, fun _ => ⟨fun z => ?_, fun _ q hq => ?_, fun _ _ => ⟨w, e, es, ee, ?_, ?_, ?_, fun q hq => ?_, fun z => ?_, fun r2 hr2 => ?_⟩⟩⟩
                · rw [f2] at z; cases z
                · rw [f1] at hq; cases hq
                · rw [ze_gIn _ _ _ _ _ _ _ _ (by omega)]; exact o0
                · rw [ze_gIn _ _ _ _ _ _ _ _ (by omega)]; exact t5
                · rw [ze_gIn _ _ _ _ _ _ _ _ (by omega)]; exact t6
                · rw [ze_gIn _ _ _ _ _ _ _ _ (by omega)]; exact t7 q hq
                · rw [en, f4] at z; cases z
                · rw [en, f4] at hr2
                  cases hr2
                  exact ⟨f, ef, c.1, c.2, ze_gIs _ _ _ _ _⟩
              · show ∃ k, _ = some (nI (if zd_ff A f = e ∧ zd_ft A f = zd_pt A (zd_mt A m) p then 0 else 6), k) ∧ _ ∧ ((if zd_ff A f = e ∧ zd_ft A f = zd_pt A (zd_mt A m) p then 0 else 6) = 0 → _)
                rw [if_neg c]
                refine ⟨_, fin (-nI 1) 6 ?_ fm1, zp_fP_I x2 5 _, fun z => absurd z (by decide)⟩
                by_cases c1 : zd_ff A f = e
                · simp (disch := omega) only [zs_Planner_wayBy_J52, zs_Planner_wayBy, zf_C_hasFunction H2 K, zd_C_ff H2, zd_C_ft H2, hw, c1, ↓zd_bnd, ↓zy_bm, if_true, if_false, ite_true, ite_false, ↓reduceIte, Bool.false_eq_true, Bool.true_eq_false, eq_self, true_and, and_true, false_and, and_false, reduceCtorEq, decide_true, decide_false, not_true_eq_false, not_false_eq_true, ze_ltT, ze_ltF, ze_leT, ze_leF, ze_eqT, ze_eqF, ze_mlt, ze_ltm, ze_mle, ze_lem, ze_meq, ze_eqm, ze_mm, ze_mltm, ze_inT, ze_inF, ze_inM, ze_cl, ze_fin, ze_decT, ze_decF, Nat.reduceSub, Nat.reduceMul, nI_add, Nat.add_sub_cancel, Nat.add_assoc, Nat.reduceAdd, ze_r8, ze_r24, ze_r40, ze_r400, ze_l8, ze_l16, ze_l24, ze_l40, ze_sub, ze_am1, ze_es, ze_en, ze_i64, ze_m64, ze_64i, ze_64m, ze_LltT, ze_LltF, ze_LleT, ze_LleF, ze_LeqT, ze_LeqF, ze_Lmlt, ze_Lltm, ze_Lmle, ze_Llem, ze_Lmeq, ze_Leqm, ze_Lmm, lN_add, ze_ch, ze_chd, ze_bt, ze_bf, ze_n0, ze_n1, ze_n2, ze_n3, ze_n4, ze_n5, ze_n6, ze_n7, ze_n8, ze_n9, ze_n10, ze_n11, ze_n12, ze_n13, ze_n14, ze_n15, ze_n16, ze_n17, ze_n18, ze_n19, ze_n20, ze_n21, ze_n22, ze_n23, ze_n24, ze_n25, ze_n26, ze_n27, ze_n28, ze_n29, ze_n30, ze_n31, ze_n32, ze_n33, ze_n34, ze_n35, ze_n36, ze_n37, ze_n38, ze_n39, ze_n40, ze_n48, ze_n63, ze_n64, ze_n65, ze_n80, ze_n100, ze_n128, ze_n200, ze_n255, ze_n300, ze_n320, ze_n384, ze_n400, ze_n512, ze_n1023, ze_n1600, ze_n6400, ze_n9600, ze_n32768, ze_n65535, ze_n65536, ze_n802, ze_n8191, ze_L0, ze_L1, ze_L2, ze_L3, ze_L4, ze_L5, ze_L6, ze_L7, ze_L8, ze_L9, ze_L10, ze_L15, ze_L16, ze_L24, ze_L40, ze_L48, ze_L63, ze_L64, ze_L127, ze_L255, ze_L400, ze_L1024, ze_L2047, ze_L65535]
                · simp (disch := omega) only [zs_Planner_wayBy_J52, zs_Planner_wayBy, zf_C_hasFunction H2 K, zd_C_ff H2, zd_C_ft H2, hw, ↓zd_bnd, ↓zy_bm, if_true, if_false, ite_true, ite_false, ↓reduceIte, Bool.false_eq_true, Bool.true_eq_false, eq_self, true_and, and_true, false_and, and_false, reduceCtorEq, decide_true, decide_false, not_true_eq_false, not_false_eq_true, ze_ltT, ze_ltF, ze_leT, ze_leF, ze_eqT, ze_eqF, ze_mlt, ze_ltm, ze_mle, ze_lem, ze_meq, ze_eqm, ze_mm, ze_mltm, ze_inT, ze_inF, ze_inM, ze_cl, ze_fin, ze_decT, ze_decF, Nat.reduceSub, Nat.reduceMul, nI_add, Nat.add_sub_cancel, Nat.add_assoc, Nat.reduceAdd, ze_r8, ze_r24, ze_r40, ze_r400, ze_l8, ze_l16, ze_l24, ze_l40, ze_sub, ze_am1, ze_es, ze_en, ze_i64, ze_m64, ze_64i, ze_64m, ze_LltT, ze_LltF, ze_LleT, ze_LleF, ze_LeqT, ze_LeqF, ze_Lmlt, ze_Lltm, ze_Lmle, ze_Llem, ze_Lmeq, ze_Leqm, ze_Lmm, lN_add, ze_ch, ze_chd, ze_bt, ze_bf, ze_n0, ze_n1, ze_n2, ze_n3, ze_n4, ze_n5, ze_n6, ze_n7, ze_n8, ze_n9, ze_n10, ze_n11, ze_n12, ze_n13, ze_n14, ze_n15, ze_n16, ze_n17, ze_n18, ze_n19, ze_n20, ze_n21, ze_n22, ze_n23, ze_n24, ze_n25, ze_n26, ze_n27, ze_n28, ze_n29, ze_n30, ze_n31, ze_n32, ze_n33, ze_n34, ze_n35, ze_n36, ze_n37, ze_n38, ze_n39, ze_n40, ze_n48, ze_n63, ze_n64, ze_n65, ze_n80, ze_n100, ze_n128, ze_n200, ze_n255, ze_n300, ze_n320, ze_n384, ze_n400, ze_n512, ze_n1023, ze_n1600, ze_n6400, ze_n9600, ze_n32768, ze_n65535, ze_n65536, ze_n802, ze_n8191, ze_L0, ze_L1, ze_L2, ze_L3, ze_L4, ze_L5, ze_L6, ze_L7, ze_L8, ze_L9, ze_L10, ze_L15, ze_L16, ze_L24, ze_L40, ze_L48, ze_L63, ze_L64, ze_L127, ze_L255, ze_L400, ze_L1024, ze_L2047, ze_L65535]
theorem zp_row_I {A : zd_A} (K : zd_ok A) {k : zx_H} {m p : Nat} (hm : m < zd_M A) (hpt : zp_y A m p < zd_T A) {l : zx_H} (x : zp_fP A (8 * m + p) k l) (h0 : l.1 60 (8 * m + p) 0 = k.1 60 (8 * m + p) 0) (h1 : l.2 60 (8 * m + p) 1 = k.2 60 (8 * m + p) 1) (h2 : l.1 60 (8 * m + p) 2 = k.1 60 (8 * m + p) 2) (h4 : l.1 60 (8 * m + p) 4 = k.1 60 (8 * m + p) 4) (h5 : l.1 60 (8 * m + p) 5 = k.1 60 (8 * m + p) 5) (h6 : ∀ q, l.1 61 (8 * m + p) q = k.1 61 (8 * m + p) q) (r : zp_row A k m p) : zp_row A l m p := by
  have hme := zd_ok_m K m hm
  refine ⟨fun z => h0.trans (r.1 z), fun z q hq => ?_, fun z1 z2 => ?_⟩
  · obtain ⟨a1, a2, a3, a4⟩ := r.2.1 z q hq
    exact ⟨h0.trans a1, h1.trans a2, h5.trans a3, a4⟩
  · obtain ⟨w, e, a1, a2, a3, a4, a5, a6, a7, a8⟩ := r.2.2 z1 z2
    refine ⟨w, e, a1, a2, h0.trans a3, h2.trans a4, h4.trans a5, fun q hq => (h6 q).trans (a6 q hq), fun z => ?_, fun q hq => ?_⟩
    · obtain ⟨b1, b2, b3⟩ := a7 z
      exact ⟨h5.trans b1, b2, zp_ch_fP K x _ _ _ (zp_end_lt K hme.1 a2) hpt b3⟩
    · obtain ⟨f, b1, b2, b3, b4⟩ := a8 q hq
      exact ⟨f, b1, b2, b3, h5.trans b4⟩
theorem zp_C_planDefault {A : zd_A} {h : zx_H} (H : zd_C A h) (K : zd_ok A) (N : zp_N A h) {m p : Nat} (hm : m < zd_M A) (hm16 : m < 16) (hp : p < zd_sz A (zd_mt A m)) (hs : zd_srt A (zd_mt A m) = 4) (hr : zp_row A h m p) : ∃ k, zs_Planner_planDefault ⟨m, hm16⟩ (nI p) h = some (nI (zp_w2 A m p), k) ∧ zp_fP A (8 * m + p) h k ∧ zp_row A k m p ∧ (zp_w2 A m p = 0 → zp_rowd A k m p) := by
  have hT := zd_ok_T K
  have hme := zd_ok_m K m hm
  have hz := zd_ok_sz K (zd_mt A m) (by omega)
  have hnm := zd_ok_nm K (zd_mt A m) p hme.2.1 hp
  have hpt := zd_ok_pt K (zd_mt A m) p hme.2.1 hp hs
  have hr24 := zd_ok_rc K m hm16
  have en : zp_n A m p = zd_nm A (zd_mt A m) p := rfl
  have ey : zp_y A m p = zd_pt A (zd_mt A m) p := rfl
  have keep : ∀ (v : Int32), zp_row A (zx_sI h 60 (8 * m + p) 6 v) m p := fun v => zp_row_I K hm hpt (zp_fP_I (zp_fP_refl A _ h) 6 v) (ze_gIn _ _ _ _ _ _ _ _ (by omega)) rfl (ze_gIn _ _ _ _ _ _ _ _ (by omega)) (ze_gIn _ _ _ _ _ _ _ _ (by omega)) (ze_gIn _ _ _ _ _ _ _ _ (by omega)) (fun q => ze_gIn _ _ _ _ _ _ _ _ (by omega)) hr
  unfold zp_w2
  have plain : ∀ o, o < 3 → 0 < o → h.1 60 (8 * m + p) 0 = nI o → zs_Planner_planDefault ⟨m, hm16⟩ (nI p) h = some (nI 0, zx_sI h 60 (8 * m + p) 6 (nI 0)) := fun o h1 h2 h3 => by
    simp (disch := omega) only [zs_Planner_planDefault_J45, zs_Planner_planDefault_J44, zs_Planner_planDefault, zp_ppe, zd_C_mt H, zf_C_nameAt H K, zp_C_first H K hm, h3, ↓zd_bnd, ↓zy_bm, if_true, if_false, ite_true, ite_false, ↓reduceIte, Bool.false_eq_true, Bool.true_eq_false, eq_self, true_and, and_true, false_and, and_false, reduceCtorEq, decide_true, decide_false, not_true_eq_false, not_false_eq_true, ze_ltT, ze_ltF, ze_leT, ze_leF, ze_eqT, ze_eqF, ze_mlt, ze_ltm, ze_mle, ze_lem, ze_meq, ze_eqm, ze_mm, ze_mltm, ze_inT, ze_inF, ze_inM, ze_cl, ze_fin, ze_decT, ze_decF, Nat.reduceSub, Nat.reduceMul, nI_add, Nat.add_sub_cancel, Nat.add_assoc, Nat.reduceAdd, ze_r8, ze_r24, ze_r40, ze_r400, ze_l8, ze_l16, ze_l24, ze_l40, ze_sub, ze_am1, ze_es, ze_en, ze_i64, ze_m64, ze_64i, ze_64m, ze_LltT, ze_LltF, ze_LleT, ze_LleF, ze_LeqT, ze_LeqF, ze_Lmlt, ze_Lltm, ze_Lmle, ze_Llem, ze_Lmeq, ze_Leqm, ze_Lmm, lN_add, ze_ch, ze_chd, ze_bt, ze_bf, ze_n0, ze_n1, ze_n2, ze_n3, ze_n4, ze_n5, ze_n6, ze_n7, ze_n8, ze_n9, ze_n10, ze_n11, ze_n12, ze_n13, ze_n14, ze_n15, ze_n16, ze_n17, ze_n18, ze_n19, ze_n20, ze_n21, ze_n22, ze_n23, ze_n24, ze_n25, ze_n26, ze_n27, ze_n28, ze_n29, ze_n30, ze_n31, ze_n32, ze_n33, ze_n34, ze_n35, ze_n36, ze_n37, ze_n38, ze_n39, ze_n40, ze_n48, ze_n63, ze_n64, ze_n65, ze_n80, ze_n100, ze_n128, ze_n200, ze_n255, ze_n300, ze_n320, ze_n384, ze_n400, ze_n512, ze_n1023, ze_n1600, ze_n6400, ze_n9600, ze_n32768, ze_n65535, ze_n65536, ze_n802, ze_n8191, ze_L0, ze_L1, ze_L2, ze_L3, ze_L4, ze_L5, ze_L6, ze_L7, ze_L8, ze_L9, ze_L10, ze_L15, ze_L16, ze_L24, ze_L40, ze_L48, ze_L63, ze_L64, ze_L127, ze_L255, ze_L400, ze_L1024, ze_L2047, ze_L65535, ze_gIs, ze_gIn, ze_gJs, ze_gJn, zd_gI2, zd_gJ1, ze_sII]
  cases f2 : (zp_fr A m 2 (nI (zp_n A m p))).isSome with
  | true =>
    rw [if_pos rfl]
    refine ⟨_, plain 2 (by omega) (by omega) (hr.1 f2), zp_fP_I (zp_fP_refl A _ h) 6 _, keep _, fun _ z => ?_⟩
    rw [f2] at z; cases z
  | false =>
    rw [if_neg (by decide)]
    cases f1 : zp_fr A m 1 (nI (zp_n A m p)) with
    | some r =>
      rw [if_pos (show (some r).isSome = true from rfl)]
      refine ⟨_, plain 1 (by omega) (by omega) (hr.2.1 f2 r f1).1, zp_fP_I (zp_fP_refl A _ h) 6 _, keep _, fun _ _ z => ?_⟩
      rw [f1] at z; cases z
    | none =>
      rw [if_neg (by decide)]
      obtain ⟨w, e, a1, a2, a3, a4, a5, a6, a7, a8⟩ := hr.2.2 f2 f1
      cases f3 : zp_fr A m 3 (nI (zp_n A m p)) with
      | none =>
        rw [if_neg (by decide)]
        have f3' := f3
        rw [en] at f3'
        refine ⟨zx_sI h 60 (8 * m + p) 6 (nI 0), ?_, zp_fP_I (zp_fP_refl A _ h) 6 _, keep _, fun _ _ _ => ⟨fun _ => ze_gIs _ _ _ _ _, fun r hr => ?_⟩⟩
        · simp (disch := omega) only [zs_Planner_planDefault_J45, zs_Planner_planDefault_J44, zs_Planner_planDefault, zp_ppe, zd_C_mt H, zf_C_nameAt H K, zp_C_first H K hm, a3, f3', ↓zd_bnd, ↓zy_bm, if_true, if_false, ite_true, ite_false, ↓reduceIte, Bool.false_eq_true, Bool.true_eq_false, eq_self, true_and, and_true, false_and, and_false, reduceCtorEq, decide_true, decide_false, not_true_eq_false, not_false_eq_true, ze_ltT, ze_ltF, ze_leT, ze_leF, ze_eqT, ze_eqF, ze_mlt, ze_ltm, ze_mle, ze_lem, ze_meq, ze_eqm, ze_mm, ze_mltm, ze_inT, ze_inF, ze_inM, ze_cl, ze_fin, ze_decT, ze_decF, Nat.reduceSub, Nat.reduceMul, nI_add, Nat.add_sub_cancel, Nat.add_assoc, Nat.reduceAdd, ze_r8, ze_r24, ze_r40, ze_r400, ze_l8, ze_l16, ze_l24, ze_l40, ze_sub, ze_am1, ze_es, ze_en, ze_i64, ze_m64, ze_64i, ze_64m, ze_LltT, ze_LltF, ze_LleT, ze_LleF, ze_LeqT, ze_LeqF, ze_Lmlt, ze_Lltm, ze_Lmle, ze_Llem, ze_Lmeq, ze_Leqm, ze_Lmm, lN_add, ze_ch, ze_chd, ze_bt, ze_bf, ze_n0, ze_n1, ze_n2, ze_n3, ze_n4, ze_n5, ze_n6, ze_n7, ze_n8, ze_n9, ze_n10, ze_n11, ze_n12, ze_n13, ze_n14, ze_n15, ze_n16, ze_n17, ze_n18, ze_n19, ze_n20, ze_n21, ze_n22, ze_n23, ze_n24, ze_n25, ze_n26, ze_n27, ze_n28, ze_n29, ze_n30, ze_n31, ze_n32, ze_n33, ze_n34, ze_n35, ze_n36, ze_n37, ze_n38, ze_n39, ze_n40, ze_n48, ze_n63, ze_n64, ze_n65, ze_n80, ze_n100, ze_n128, ze_n200, ze_n255, ze_n300, ze_n320, ze_n384, ze_n400, ze_n512, ze_n1023, ze_n1600, ze_n6400, ze_n9600, ze_n32768, ze_n65535, ze_n65536, ze_n802, ze_n8191, ze_L0, ze_L1, ze_L2, ze_L3, ze_L4, ze_L5, ze_L6, ze_L7, ze_L8, ze_L9, ze_L10, ze_L15, ze_L16, ze_L24, ze_L40, ze_L48, ze_L63, ze_L64, ze_L127, ze_L255, ze_L400, ze_L1024, ze_L2047, ze_L65535, ze_gIs, ze_gIn, ze_gJs, ze_gJn, zd_gI2, zd_gJ1, ze_sII]
        · rw [f3] at hr; cases hr
      | some r =>
        rw [if_pos (show (some r).isSome = true from rfl)]
        have f3' := f3
        rw [en] at f3'
        have hrr := (zp_fr_lt f3).1
        have x1 : zp_fP A (8 * m + p) h (zx_sJ (zx_sI h 60 (8 * m + p) 6 (nI 1)) 60 (8 * m + p) 7 (zd_wh A m r)) := zp_fP_J (zp_fP_I (zp_fP_refl A _ h) 6 _) 7 _
        have H1 := zd_C_k (zp_fP_k x1) H
        obtain ⟨s, t1, t2, t3⟩ := zp_C_find H1 K (zp_fP_N x1 N) (a := 4) (b := zd_pt A (zd_mt A m) p) (by omega) hpt
        have fo := zp_faultOf K (zx_sI s 60 (8 * m + p) 8 (zp_cw (zp_hw A 4 (zd_pt A (zd_mt A m) p)))) 4 (zd_pt A (zd_mt A m) p)
        have x2 := zp_fP_I (zp_fP_ft x1 t2) 8 (zp_cw (zp_hw A 4 (zd_pt A (zd_mt A m) p)))
        refine ⟨zx_sI s 60 (8 * m + p) 8 (zp_cw (zp_hw A 4 (zd_pt A (zd_mt A m) p))), ?_, x2, ?_, fun z _ _ => ⟨fun z => ?_, fun q hq => ?_⟩⟩
        · simp (disch := omega) only [zs_Planner_planDefault_J45, zs_Planner_planDefault_J44, zs_Planner_planDefault, zp_ppe, zd_C_mt H, zd_C_wh H, zd_C_mt H1, zf_C_nameAt H K, zf_C_typeAt H1 K, hs, zp_C_first H K hm, a3, f3', t1, fo, ey, ↓zd_bnd, ↓zy_bm, if_true, if_false, ite_true, ite_false, ↓reduceIte, Bool.false_eq_true, Bool.true_eq_false, eq_self, true_and, and_true, false_and, and_false, reduceCtorEq, decide_true, decide_false, not_true_eq_false, not_false_eq_true, ze_ltT, ze_ltF, ze_leT, ze_leF, ze_eqT, ze_eqF, ze_mlt, ze_ltm, ze_mle, ze_lem, ze_meq, ze_eqm, ze_mm, ze_mltm, ze_inT, ze_inF, ze_inM, ze_cl, ze_fin, ze_decT, ze_decF, Nat.reduceSub, Nat.reduceMul, nI_add, Nat.add_sub_cancel, Nat.add_assoc, Nat.reduceAdd, ze_r8, ze_r24, ze_r40, ze_r400, ze_l8, ze_l16, ze_l24, ze_l40, ze_sub, ze_am1, ze_es, ze_en, ze_i64, ze_m64, ze_64i, ze_64m, ze_LltT, ze_LltF, ze_LleT, ze_LleF, ze_LeqT, ze_LeqF, ze_Lmlt, ze_Lltm, ze_Lmle, ze_Llem, ze_Lmeq, ze_Leqm, ze_Lmm, lN_add, ze_ch, ze_chd, ze_bt, ze_bf, ze_n0, ze_n1, ze_n2, ze_n3, ze_n4, ze_n5, ze_n6, ze_n7, ze_n8, ze_n9, ze_n10, ze_n11, ze_n12, ze_n13, ze_n14, ze_n15, ze_n16, ze_n17, ze_n18, ze_n19, ze_n20, ze_n21, ze_n22, ze_n23, ze_n24, ze_n25, ze_n26, ze_n27, ze_n28, ze_n29, ze_n30, ze_n31, ze_n32, ze_n33, ze_n34, ze_n35, ze_n36, ze_n37, ze_n38, ze_n39, ze_n40, ze_n48, ze_n63, ze_n64, ze_n65, ze_n80, ze_n100, ze_n128, ze_n200, ze_n255, ze_n300, ze_n320, ze_n384, ze_n400, ze_n512, ze_n1023, ze_n1600, ze_n6400, ze_n9600, ze_n32768, ze_n65535, ze_n65536, ze_n802, ze_n8191, ze_L0, ze_L1, ze_L2, ze_L3, ze_L4, ze_L5, ze_L6, ze_L7, ze_L8, ze_L9, ze_L10, ze_L15, ze_L16, ze_L24, ze_L40, ze_L48, ze_L63, ze_L64, ze_L127, ze_L255, ze_L400, ze_L1024, ze_L2047, ze_L65535, ze_gIs, ze_gIn, ze_gJs, ze_gJn, zd_gI2, zd_gJ1, ze_sII]
        · refine zp_row_I K hm hpt x2 ?_ ?_ ?_ ?_ ?_ (fun q => ?_) hr
          · rw [ze_gIn _ _ _ _ _ _ _ _ (by omega), t2.1 60 (by decide)]
            exact ze_gIn _ _ _ _ _ _ _ _ (by omega)
          · show s.2 60 (8 * m + p) 1 = _
            rw [t2.2.1]
            exact ze_gJn _ _ _ _ _ _ _ _ (by omega)
          · rw [ze_gIn _ _ _ _ _ _ _ _ (by omega), t2.1 60 (by decide)]
            exact ze_gIn _ _ _ _ _ _ _ _ (by omega)
          · rw [ze_gIn _ _ _ _ _ _ _ _ (by omega), t2.1 60 (by decide)]
            exact ze_gIn _ _ _ _ _ _ _ _ (by omega)
          · rw [ze_gIn _ _ _ _ _ _ _ _ (by omega), t2.1 60 (by decide)]
            exact ze_gIn _ _ _ _ _ _ _ _ (by omega)
          · rw [ze_gIn _ _ _ _ _ _ _ _ (by omega), t2.1 61 (by decide)]
            exact ze_gIn h 60 (8 * m + p) 6 (nI 1) 61 (8 * m + p) q (by omega)
        · rw [f3] at z; cases z
        · rw [f3] at hq
          cases hq
          refine ⟨?_, ?_, ze_gIs _ _ _ _ _, zp_ww0 z⟩
          · rw [ze_gIn _ _ _ _ _ _ _ _ (by omega), t2.1 60 (by decide)]
            exact ze_gIs _ _ _ _ _
          · show s.2 60 (8 * m + p) 7 = _
            rw [t2.2.1]
            exact ze_gJs _ _ _ _ _
